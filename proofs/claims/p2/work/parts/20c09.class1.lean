set_option maxHeartbeats 4000000 in
set_option maxRecDepth 100000 in
theorem r_X2_readParam (l : Launch) (dC : Nat → ClassId) (dI : Nat → Nat → Nat) (L : List Nat) (kd : Nat → Nat) (tys : List (ClassId × FieldType)) (f0 : Nat → va_E) (sz : Nat) (hWT : WT L kd tys f0) (a0_ : Nat) (ma0_ : a0_ ∈ L) (ka0_ : kd a0_ = 2) (q0_ : Nat) (mq0_ : q0_ ∈ L) (kq0_ : kd q0_ = 8) (q1_ : Nat) (mq1_ : q1_ ∈ L) (kq1_ : kd q1_ = 5) (q2_ : Nat) (mq2_ : q2_ ∈ L) (kq2_ : kd q2_ = 6) (q3_ : Nat) (mq3_ : q3_ ∈ L) (kq3_ : kd q3_ = 9) (hfx : Fs L kd f0 [(2, 0, a0_, .ref q0_), (2, 1, a0_, .ref q1_), (2, 5, a0_, .ref q2_), (5, 1, q1_, .ref q3_)]) : Met l yX2_readParam (.code yX2_readParam cX2_readParam 7 none :: lw_g) ({ frames := 2, cells := 0, slots := 0, locals := 46 }) (va_Pc [.ref a0_] (P3 (dC, dI) L tys f0 sz)) (va_Qv (fun (f : Nat → va_E) => (∃ z0_ : Int32, bd 1 1201 z0_ ∧ Fs L kd f [(8, 6, q0_, .int z0_)])) (Q3 (dC, dI) L kd tys [(5, 4), (6, 3), (8, 6), (8, 8), (8, 9)] [132, 134, 135] f0 sz) (pA L sz)) 0 0 (pA L sz) := by
  refine Met.ofW (cc := cX2_readParam) (maxL := 7) (ret := none) (by decide) rfl ?_
  intro p e s m args below meth c s₁ B hml hv
  obtain ⟨rfl, hsz, hP, hK, hD0⟩ := hv
  have hx := B.exec
  have hb := B.bytes
  have hr := B.returns
  have hts := atoms_spec (ws := (.code yX2_readParam cX2_readParam 7 none :: lw_g)) B.pre
  have hown : s.vm.findClass RX2 = some m.cls := findClass_of_methodNamed B.named
  have hlocks := B.notSynchronized
  subst hsz
  have g : G3 (dC, dI) L kd tys s f0 [(5, 4), (6, 3), (8, 6), (8, 8), (8, 9)] [132, 134, 135] f0 s.heap [] [(2, 0, a0_, .ref q0_), (2, 1, a0_, .ref q1_), (2, 5, a0_, .ref q2_), (5, 1, q1_, .ref q3_)] := G3.start hP hD0 hWT hfx
  have hl := lv_entry ([.ref a0_]) (n := 7) (Nat.le_of_ble_eq_true rfl)
  rw [lg_entry_eq]
  generalize (lg_sl ([.ref a0_]) ++ List.replicate (7 - (lg_sl ([.ref a0_])).length) Slot.unset).toArray = ls at hl ⊢
  have hl : lv_has ls 7 [(0, .ref a0_)] := hl
  refine W_q (fun Q hQ => ?_)
  refine lv_aload_n hx hb dX2_readParam_0 rfl (lv_at hl 0 rfl) ?_
  refine g_getk (C := RX2) (T := TX2) (N := 16) hx hb hts (mc_ inX2) hown hK g rfl 0 (by decide) rfl (hts _ (List.mem_cons_of_mem _ t_416)) (fun _ h9 => h9) 0 rfl dX2_readParam_1 ?_
  refine g_calli (va_runV (As := []) (rest := []) ⟨hx, hb, hml, hown, hts⟩ (r_X8_place l dC dI L kd tys f0 s.heap.size g.2.2.2.1 q0_ mq0_ kq0_) (cwV 0 hts (gV_ t_1110 t_1111 t_1112 t_184 t_1113) rfl rfl rfl (by decide +kernel) ⟨(Nat.le_of_ble_eq_true rfl), (Nat.le_of_ble_eq_true rfl)⟩) (pre3V g hK mq0_ kq0_ (by decide) (q := (RX8, TX8, 10)) rfl) rfl rfl hl.1 rfl (lv_room (Nat.le_of_ble_eq_true rfl)) dX2_readParam_4 ⟨(Nat.le_of_ble_eq_true rfl), (Nat.le_of_ble_eq_true rfl)⟩) g hK (by decide) (by decide) (fx' := [(2, 0, a0_, .ref q0_), (2, 1, a0_, .ref q1_), (2, 5, a0_, .ref q2_), (5, 1, q1_, .ref q3_)]) rfl (fun r_1 fr_1 H locs hp hMr_1 g => ?_)
  refine lv_istore_n (lv' := [(1, .int r_1), (0, .ref a0_)]) hx hb dX2_readParam_7 rfl hl (by decide) rfl (fun ls hl => ?_)
  refine lv_aload_n hx hb dX2_readParam_8 rfl (lv_at hl 1 rfl) ?_
  refine g_getk (C := RX2) (T := TX2) (N := 16) hx hb hts (mc_ inX2) hown hK g rfl 0 (by decide) rfl (hts _ (List.mem_cons_of_mem _ t_416)) (fun _ h9 => h9) 0 rfl dX2_readParam_9 ?_
  refine g_calll (va_runV (As := []) (rest := []) ⟨hx, hb, hml, hown, hts⟩ (r_X8_value l dC dI L kd tys fr_1 H.size g.2.2.2.1 q0_ mq0_ kq0_) (cwV 0 hts (gV_ t_1114 t_1115 t_1116 t_184 t_1117) rfl rfl rfl (by decide +kernel) ⟨(Nat.le_of_ble_eq_true rfl), (Nat.le_of_ble_eq_true rfl)⟩) (pre3V g hK mq0_ kq0_ (by decide) (q := (RX8, TX8, 10)) rfl) rfl rfl hl.1 rfl (lv_room (Nat.le_of_ble_eq_true rfl)) dX2_readParam_12 ⟨(Nat.le_of_ble_eq_true rfl), (Nat.le_of_ble_eq_true rfl)⟩) g hK (by decide) (by decide) (fx' := [(2, 0, a0_, .ref q0_), (2, 1, a0_, .ref q1_), (2, 5, a0_, .ref q2_), (5, 1, q1_, .ref q3_)]) rfl (fun r_2 fr_2 H locs hp hMr_2 g => ?_)
  refine lv_lstore_n (lv' := [(2, .long r_2), (1, .int r_1), (0, .ref a0_)]) hx hb dX2_readParam_15 rfl hl (by decide) rfl (fun ls hl => ?_)
  refine lv_aload_n hx hb dX2_readParam_16 rfl (lv_at hl 2 rfl) ?_
  refine g_getk (C := RX2) (T := TX2) (N := 16) hx hb hts (mc_ inX2) hown hK g rfl 5 (by decide) rfl (hts _ (List.mem_cons_of_mem _ t_421)) (fun _ h9 => h9) 2 rfl dX2_readParam_17 ?_
  refine g_geti (C := RX6) (T := TX6) (N := 13) hx hb hts (mc_ inX6) hown hK g mq2_ kq2_ (by decide) rfl 3 (by decide) rfl (hts _ (List.mem_cons_of_mem _ t_568)) (fun _ h9 => h9) rfl dX2_readParam_20 (fun x_3 bx_3 g => ?_)
  refine lv_istore (lv' := [(4, .int x_3), (2, .long r_2), (1, .int r_1), (0, .ref a0_)]) hx hb dX2_readParam_23 hl (by decide) rfl (fun ls hl => ?_)
  refine lv_aload_n hx hb dX2_readParam_25 rfl (lv_at hl 3 rfl) ?_
  refine g_getk (C := RX2) (T := TX2) (N := 16) hx hb hts (mc_ inX2) hown hK g rfl 0 (by decide) rfl (hts _ (List.mem_cons_of_mem _ t_416)) (fun _ h9 => h9) 1 rfl dX2_readParam_26 ?_
  refine g_calli (va_runV (As := []) (rest := []) ⟨hx, hb, hml, hown, hts⟩ (r_X8_kind l dC dI L kd tys fr_2 H.size g.2.2.2.1 q0_ mq0_ kq0_) (cwV 0 hts (gV_ t_1118 t_1119 t_1120 t_184 t_1121) rfl rfl rfl (by decide +kernel) ⟨(Nat.le_of_ble_eq_true rfl), (Nat.le_of_ble_eq_true rfl)⟩) (pre3V g hK mq0_ kq0_ (by decide) (q := (RX8, TX8, 10)) rfl) rfl rfl hl.1 rfl (lv_room (Nat.le_of_ble_eq_true rfl)) dX2_readParam_29 ⟨(Nat.le_of_ble_eq_true rfl), (Nat.le_of_ble_eq_true rfl)⟩) g hK (by decide) (by decide) (fx' := [(6, 3, q2_, .int x_3), (2, 0, a0_, .ref q0_), (2, 1, a0_, .ref q1_), (2, 5, a0_, .ref q2_), (5, 1, q1_, .ref q3_)]) rfl (fun r_4 fr_4 H locs hp hMr_4 g => ?_)
  refine lv_iconst (v := 3) hx hb dX2_readParam_32 (by decide) ?_
  have kb_3 : bd 3 3 (3 : Int32) := ⟨by decide, by decide⟩
  refine lv_icmp_eq (tgt := 48) hx hb dX2_readParam_33 (by decide) (fun c_5 => ?_) (fun c_5 => ?_)
  · have fc_5 := eq_f c_5
    have b_6 : bd 3 3 r_4 := eqX fc_5 (bdT r_4) kb_3 (by decide)
    refine lv_aload_n hx hb dX2_readParam_48 rfl (lv_at hl 3 rfl) ?_
    refine g_getk (C := RX2) (T := TX2) (N := 16) hx hb hts (mc_ inX2) hown hK g rfl 1 (by decide) rfl (hts _ (List.mem_cons_of_mem _ t_417)) (fun _ h9 => h9) 2 rfl dX2_readParam_49 ?_
    refine lv_lload_n hx hb dX2_readParam_52 rfl (lv_at hl 1 rfl) ?_
    refine g_calli (va_runV (As := [.long r_2]) (rest := []) ⟨hx, hb, hml, hown, hts⟩ (r_X5_placeNamed l dC dI L kd tys fr_4 H.size g.2.2.2.1 q1_ mq1_ kq1_ r_2 q3_ mq3_ kq3_ (g.fcts [4] rfl)) (cwV 1 hts (gV_ t_1317 t_1252 t_1253 t_189 t_1254) rfl rfl rfl (by decide +kernel) ⟨(Nat.le_of_ble_eq_true rfl), (Nat.le_of_ble_eq_true rfl)⟩) (pre3V g hK mq1_ kq1_ (by decide) (q := (RX5, TX5, 9)) rfl) rfl rfl hl.1 rfl (lv_room (Nat.le_of_ble_eq_true rfl)) dX2_readParam_53 ⟨(Nat.le_of_ble_eq_true rfl), (Nat.le_of_ble_eq_true rfl)⟩) g hK (by decide) (by decide) (fx' := [(6, 3, q2_, .int x_3), (2, 0, a0_, .ref q0_), (2, 1, a0_, .ref q1_), (2, 5, a0_, .ref q2_), (5, 1, q1_, .ref q3_)]) rfl (fun r_7 fr_7 H locs hp hMr_7 g => ?_)
    obtain ⟨h_8, -⟩ := hp
    refine lv_iconst (v := (-1)) hx hb dX2_readParam_56 (by decide) ?_
    have kb_m1 : bd (-1) (-1) ((-1) : Int32) := ⟨by decide, by decide⟩
    refine lv_icmp_eq (tgt := 72) hx hb dX2_readParam_57 (by decide) (fun c_9 => ?_) (fun c_9 => ?_)
    · have fc_9 := eq_f c_9
      have b_10 : bd (-1) (-1) r_7 := eqX fc_9 h_8 kb_m1 (by decide)
      refine lv_iload hx hb dX2_readParam_72 (lv_at hl 0 rfl) ?_
      refine lv_iconst (v := 3) hx hb dX2_readParam_74 (by decide) ?_
      refine lv_icmp_lt (tgt := 87) hx hb dX2_readParam_75 (by decide) (fun c_11 => ?_) (fun c_11 => ?_)
      · have fc_11 := lt_f c_11
        have b_12 : bd 0 2 x_3 := ltL fc_11 bx_3 kb_3 (by decide)
        refine lv_aload_n hx hb dX2_readParam_87 rfl (lv_at hl 3 rfl) ?_
        refine g_getk (C := RX2) (T := TX2) (N := 16) hx hb hts (mc_ inX2) hown hK g rfl 0 (by decide) rfl (hts _ (List.mem_cons_of_mem _ t_416)) (fun _ h9 => h9) 1 rfl dX2_readParam_88 ?_
        refine g_callv (va_runV (As := []) (rest := []) ⟨hx, hb, hml, hown, hts⟩ (r_X8_next l dC dI L kd tys fr_7 H.size g.2.2.2.1 q0_ mq0_ kq0_) (cwV 0 hts (gV_ t_1131 t_1103 t_1104 t_184 t_1105) rfl rfl rfl (by decide +kernel) ⟨(Nat.le_of_ble_eq_true rfl), (Nat.le_of_ble_eq_true rfl)⟩) (pre3V g hK mq0_ kq0_ (by decide) (q := (RX8, TX8, 10)) rfl) rfl rfl hl.1 rfl (lv_room (Nat.le_of_ble_eq_true rfl)) dX2_readParam_91 ⟨(Nat.le_of_ble_eq_true rfl), (Nat.le_of_ble_eq_true rfl)⟩) g hK (by decide) (by decide) (fx' := [(6, 3, q2_, .int x_3), (2, 0, a0_, .ref q0_), (2, 1, a0_, .ref q1_), (2, 5, a0_, .ref q2_), (5, 1, q1_, .ref q3_)]) rfl (fun fr_13 H locs hp hMr_13 g => ?_)
        obtain ⟨x_14, h_15, hF_16⟩ := hp
        have g := g.more hF_16
        refine lv_aload_n hx hb dX2_readParam_94 rfl (lv_at hl 3 rfl) ?_
        refine g_getk (C := RX2) (T := TX2) (N := 16) hx hb hts (mc_ inX2) hown hK g rfl 0 (by decide) rfl (hts _ (List.mem_cons_of_mem _ t_416)) (fun _ h9 => h9) 2 rfl dX2_readParam_95 ?_
        refine lv_bipush (v := 15) hx hb dX2_readParam_98 (by decide) ?_
        refine g_callv (va_runV (As := [.int 15]) (rest := []) ⟨hx, hb, hml, hown, hts⟩ (r_X8_take l dC dI L kd tys fr_13 H.size g.2.2.2.1 q0_ mq0_ kq0_ 15) (cwV 1 hts (gV_ t_1098 t_1099 t_1100 t_184 t_1101) rfl rfl rfl (by decide +kernel) ⟨(Nat.le_of_ble_eq_true rfl), (Nat.le_of_ble_eq_true rfl)⟩) (pre3V g hK mq0_ kq0_ (by decide) (q := (RX8, TX8, 10)) rfl) rfl rfl hl.1 rfl (lv_room (Nat.le_of_ble_eq_true rfl)) dX2_readParam_100 ⟨(Nat.le_of_ble_eq_true rfl), (Nat.le_of_ble_eq_true rfl)⟩) g hK (by decide) (by decide) (fx' := [(6, 3, q2_, .int x_3), (2, 0, a0_, .ref q0_), (2, 1, a0_, .ref q1_), (2, 5, a0_, .ref q2_), (5, 1, q1_, .ref q3_)]) rfl (fun fr_17 H locs hp hMr_17 g => ?_)
        obtain ⟨x_18, h_19, hF_20⟩ := hp
        have g := g.more hF_20
        refine lv_aload_n hx hb dX2_readParam_103 rfl (lv_at hl 3 rfl) ?_
        refine lv_ldc (v := (-2147483648)) hx hb hown (hts _ (List.mem_cons_of_mem _ t_1159)) dX2_readParam_104 ?_
        refine g_calli (va_runV (As := [.int (-2147483648)]) (rest := []) ⟨hx, hb, hml, hown, hts⟩ (r_X2_readNumber l dC dI L kd tys fr_17 H.size g.2.2.2.1 a0_ ma0_ ka0_ (-2147483648) q0_ mq0_ kq0_ (g.fcts [2] rfl)) (cwV 1 hts (gV_ t_1160 t_1162 t_11 t_183 t_1163) rfl rfl rfl (by decide +kernel) ⟨(Nat.le_of_ble_eq_true rfl), (Nat.le_of_ble_eq_true rfl)⟩) (pre3V g hK ma0_ ka0_ (by decide) (q := (RX2, TX2, 16)) rfl) rfl rfl hl.1 rfl (lv_room (Nat.le_of_ble_eq_true rfl)) dX2_readParam_106 ⟨(Nat.le_of_ble_eq_true rfl), (Nat.le_of_ble_eq_true rfl)⟩) g hK (by decide) (by decide) (fx' := [(6, 3, q2_, .int x_3), (2, 0, a0_, .ref q0_), (2, 1, a0_, .ref q1_), (2, 5, a0_, .ref q2_), (5, 1, q1_, .ref q3_)]) rfl (fun r_21 fr_21 H locs hp hMr_21 g => ?_)
        obtain ⟨x_22, h_23, hF_24⟩ := hp
        have g := g.more hF_24
        refine lv_istore (lv' := [(5, .int r_21), (4, .int x_3), (2, .long r_2), (1, .int r_1), (0, .ref a0_)]) hx hb dX2_readParam_109 hl (by decide) rfl (fun ls hl => ?_)
        refine lv_aload_n hx hb dX2_readParam_111 rfl (lv_at hl 4 rfl) ?_
        refine g_getk (C := RX2) (T := TX2) (N := 16) hx hb hts (mc_ inX2) hown hK g rfl 0 (by decide) rfl (hts _ (List.mem_cons_of_mem _ t_416)) (fun _ h9 => h9) 2 rfl dX2_readParam_112 ?_
        refine lv_sipush (v := 200) hx hb dX2_readParam_115 (by decide) ?_
        refine g_callv (va_runV (As := [.int 200]) (rest := []) ⟨hx, hb, hml, hown, hts⟩ (r_X8_take l dC dI L kd tys fr_21 H.size g.2.2.2.1 q0_ mq0_ kq0_ 200) (cwV 1 hts (gV_ t_1098 t_1099 t_1100 t_184 t_1101) rfl rfl rfl (by decide +kernel) ⟨(Nat.le_of_ble_eq_true rfl), (Nat.le_of_ble_eq_true rfl)⟩) (pre3V g hK mq0_ kq0_ (by decide) (q := (RX8, TX8, 10)) rfl) rfl rfl hl.1 rfl (lv_room (Nat.le_of_ble_eq_true rfl)) dX2_readParam_118 ⟨(Nat.le_of_ble_eq_true rfl), (Nat.le_of_ble_eq_true rfl)⟩) g hK (by decide) (by decide) (fx' := [(6, 3, q2_, .int x_3), (2, 0, a0_, .ref q0_), (2, 1, a0_, .ref q1_), (2, 5, a0_, .ref q2_), (5, 1, q1_, .ref q3_)]) rfl (fun fr_25 H locs hp hMr_25 g => ?_)
        obtain ⟨x_26, h_27, hF_28⟩ := hp
        have g := g.more hF_28
        refine lv_aload_n hx hb dX2_readParam_121 rfl (lv_at hl 4 rfl) ?_
        refine lv_iload hx hb dX2_readParam_122 (lv_at hl 0 rfl) ?_
        refine g_calli (va_runV (As := [.int r_21]) (rest := []) ⟨hx, hb, hml, hown, hts⟩ (r_X2_readNumber l dC dI L kd tys fr_25 H.size g.2.2.2.1 a0_ ma0_ ka0_ r_21 q0_ mq0_ kq0_ (g.fcts [2] rfl)) (cwV 1 hts (gV_ t_1160 t_1162 t_11 t_183 t_1163) rfl rfl rfl (by decide +kernel) ⟨(Nat.le_of_ble_eq_true rfl), (Nat.le_of_ble_eq_true rfl)⟩) (pre3V g hK ma0_ ka0_ (by decide) (q := (RX2, TX2, 16)) rfl) rfl rfl hl.1 rfl (lv_room (Nat.le_of_ble_eq_true rfl)) dX2_readParam_124 ⟨(Nat.le_of_ble_eq_true rfl), (Nat.le_of_ble_eq_true rfl)⟩) g hK (by decide) (by decide) (fx' := [(6, 3, q2_, .int x_3), (2, 0, a0_, .ref q0_), (2, 1, a0_, .ref q1_), (2, 5, a0_, .ref q2_), (5, 1, q1_, .ref q3_)]) rfl (fun r_29 fr_29 H locs hp hMr_29 g => ?_)
        obtain ⟨x_30, h_31, hF_32⟩ := hp
        have g := g.more hF_32
        refine lv_istore (lv' := [(6, .int r_29), (5, .int r_21), (4, .int x_3), (2, .long r_2), (1, .int r_1), (0, .ref a0_)]) hx hb dX2_readParam_127 hl (by decide) rfl (fun ls hl => ?_)
        refine lv_aload_n hx hb dX2_readParam_129 rfl (lv_at hl 5 rfl) ?_
        refine g_getk (C := RX2) (T := TX2) (N := 16) hx hb hts (mc_ inX2) hown hK g rfl 0 (by decide) rfl (hts _ (List.mem_cons_of_mem _ t_416)) (fun _ h9 => h9) 2 rfl dX2_readParam_130 ?_
        refine g_geti (C := RX8) (T := TX8) (N := 10) hx hb hts (mc_ inX8) hown hK g mq0_ kq0_ (by decide) rfl 8 (by decide) rfl (hts _ (List.mem_cons_of_mem _ t_294)) (fun _ h9 => h9) rfl dX2_readParam_133 (fun x_33 bx_33 g => ?_)
        have kb_0 : bd 0 0 (0 : Int32) := ⟨by decide, by decide⟩
        refine lv_if_ne (tgt := 202) hx hb dX2_readParam_136 (by decide) (fun c_34 => ?_) (fun c_34 => ?_)
        · have fc_34 := neq_f c_34
          have b_35 : bd 1 7 x_33 := neX fc_34 bx_33 kb_0 (by decide)
          subst hQ
          exact W.vret hx hb hr (fun t ht hW => ⟨⟨_, rfl, ⟨x_30, h_31, (g.fcts [1] rfl)⟩, q3_of g hK ht hW⟩, g.2.2.1.F ht⟩) g.2.2.1.2.2 dX2_readParam_202
        · have fc_34 := eq_f c_34
          have b_36 : bd 0 0 x_33 := eqX fc_34 bx_33 kb_0 (by decide)
          refine lv_iload hx hb dX2_readParam_139 (lv_at hl 2 rfl) ?_
          refine lv_iconst (v := 3) hx hb dX2_readParam_141 (by decide) ?_
          refine lv_icmp_ge (tgt := 202) hx hb dX2_readParam_142 (by decide) (fun c_37 => ?_) (fun c_37 => ?_)
          · have fc_37 := le_f c_37
            have b_38 : bd 3 2 (3 : Int32) := leL fc_37 kb_3 b_12 (by decide)
            exact bd_no (eqX rfl b_38 kb_3 (lo := 3) (hi := 2) (by decide)) (by decide)
          · have fc_37 := nle_f c_37
            refine lv_aload_n hx hb dX2_readParam_145 rfl (lv_at hl 5 rfl) ?_
            refine g_getk (C := RX2) (T := TX2) (N := 16) hx hb hts (mc_ inX2) hown hK g rfl 1 (by decide) rfl (hts _ (List.mem_cons_of_mem _ t_417)) (fun _ h9 => h9) 4 rfl dX2_readParam_146 ?_
            refine g_getr (K := 132) (C := RX5) (T := TX5) (N := 9) hx hb hts (mc_ inX5) hown hK g mq1_ kq1_ (by decide) rfl 3 (by decide) rfl (hts _ (List.mem_cons_of_mem _ t_335)) (fun _ h9 => h9) rfl dX2_readParam_149 (fun a_39 ma_39 ka_39 g => ?_)
            refine lv_iload hx hb dX2_readParam_152 (lv_at hl 2 rfl) ?_
            refine lv_lload_n hx hb dX2_readParam_154 rfl (lv_at hl 3 rfl) ?_
            refine g_last hx hb hK g ma_39 ka_39 (by decide) rfl (in_bd b_12 (by decide)) (by decide) dX2_readParam_155 (fun f H locs g => ?_)
            refine lv_aload_n hx hb dX2_readParam_156 rfl (lv_at hl 5 rfl) ?_
            refine g_getk (C := RX2) (T := TX2) (N := 16) hx hb hts (mc_ inX2) hown hK g rfl 1 (by decide) rfl (hts _ (List.mem_cons_of_mem _ t_417)) (fun _ h9 => h9) 5 rfl dX2_readParam_157 ?_
            refine lv_iload hx hb dX2_readParam_160 (lv_at hl 2 rfl) ?_
            refine lv_iconst (v := 1) hx hb dX2_readParam_162 (by decide) ?_
            have kb_1 : bd 1 1 (1 : Int32) := ⟨by decide, by decide⟩
            refine lv_iadd hx hb dX2_readParam_163 ?_
            refine lv_topi (fun y_40 ey_40 => ?_)
            have ty_40 := add_bd ey_40 b_12 kb_1 (by decide)
            have b_41 : bd 1 3 y_40 := add_rg ty_40 b_12 kb_1 (by decide)
            refine g_put (C := RX5) (T := TX5) (N := 9) hx hb hts (mc_ inX5) tyX5 tyX5_ok nmX5 hown hK g mq1_ kq1_ (by decide) rfl 4 (by decide) (hts _ (List.mem_cons_of_mem _ t_337)) (fun _ h9 => h9) rfl rfl (okV_i (bd_sub b_41 (by decide))) rfl rfl (by decide) (Or.inr (Or.inl (by decide))) (fx' := [(5, 3, q1_, .ref a_39), (8, 8, q0_, .int x_33), (8, 6, q0_, .int x_30), (6, 3, q2_, .int x_3), (2, 0, a0_, .ref q0_), (2, 1, a0_, .ref q1_), (2, 5, a0_, .ref q2_), (5, 1, q1_, .ref q3_)]) rfl dX2_readParam_164 (fun f H locs g => ?_)
            refine lv_aload_n hx hb dX2_readParam_167 rfl (lv_at hl 5 rfl) ?_
            refine g_getk (C := RX2) (T := TX2) (N := 16) hx hb hts (mc_ inX2) hown hK g rfl 5 (by decide) rfl (hts _ (List.mem_cons_of_mem _ t_421)) (fun _ h9 => h9) 7 rfl dX2_readParam_168 ?_
            refine g_getr (K := 134) (C := RX6) (T := TX6) (N := 13) hx hb hts (mc_ inX6) hown hK g mq2_ kq2_ (by decide) rfl 4 (by decide) rfl (hts _ (List.mem_cons_of_mem _ t_572)) (fun _ h9 => h9) rfl dX2_readParam_171 (fun a_42 ma_42 ka_42 g => ?_)
            refine lv_iload hx hb dX2_readParam_174 (lv_at hl 2 rfl) ?_
            refine lv_iload hx hb dX2_readParam_176 (lv_at hl 1 rfl) ?_
            refine g_iast hx hb hK g ma_42 ka_42 (by decide) rfl (in_bd b_12 (by decide)) (bdT r_21) (by decide) dX2_readParam_178 (fun f H locs g => ?_)
            refine lv_aload_n hx hb dX2_readParam_179 rfl (lv_at hl 5 rfl) ?_
            refine g_getk (C := RX2) (T := TX2) (N := 16) hx hb hts (mc_ inX2) hown hK g rfl 5 (by decide) rfl (hts _ (List.mem_cons_of_mem _ t_421)) (fun _ h9 => h9) 8 rfl dX2_readParam_180 ?_
            refine g_getr (K := 135) (C := RX6) (T := TX6) (N := 13) hx hb hts (mc_ inX6) hown hK g mq2_ kq2_ (by decide) rfl 5 (by decide) rfl (hts _ (List.mem_cons_of_mem _ t_575)) (fun _ h9 => h9) rfl dX2_readParam_183 (fun a_43 ma_43 ka_43 g => ?_)
            refine lv_iload hx hb dX2_readParam_186 (lv_at hl 2 rfl) ?_
            refine lv_iload hx hb dX2_readParam_188 (lv_at hl 0 rfl) ?_
            refine g_iast hx hb hK g ma_43 ka_43 (by decide) rfl (in_bd b_12 (by decide)) (bdT r_29) (by decide) dX2_readParam_190 (fun f H locs g => ?_)
            refine lv_aload_n hx hb dX2_readParam_191 rfl (lv_at hl 5 rfl) ?_
            refine g_getk (C := RX2) (T := TX2) (N := 16) hx hb hts (mc_ inX2) hown hK g rfl 5 (by decide) rfl (hts _ (List.mem_cons_of_mem _ t_421)) (fun _ h9 => h9) 9 rfl dX2_readParam_192 ?_
            refine lv_iload hx hb dX2_readParam_195 (lv_at hl 2 rfl) ?_
            refine lv_iconst (v := 1) hx hb dX2_readParam_197 (by decide) ?_
            refine lv_iadd hx hb dX2_readParam_198 ?_
            refine lv_topi (fun y_44 ey_44 => ?_)
            have ty_44 := add_bd ey_44 b_12 kb_1 (by decide)
            have b_45 : bd 1 3 y_44 := add_rg ty_44 b_12 kb_1 (by decide)
            refine g_put (C := RX6) (T := TX6) (N := 13) hx hb hts (mc_ inX6) tyX6 tyX6_ok nmX6 hown hK g mq2_ kq2_ (by decide) rfl 3 (by decide) (hts _ (List.mem_cons_of_mem _ t_568)) (fun _ h9 => h9) rfl rfl (okV_i (bd_sub b_45 (by decide))) rfl rfl (by decide) (Or.inr (Or.inl (by decide))) (fx' := [(6, 5, q2_, .ref a_43), (6, 4, q2_, .ref a_42), (5, 4, q1_, .int y_40), (5, 3, q1_, .ref a_39), (8, 8, q0_, .int x_33), (8, 6, q0_, .int x_30), (2, 0, a0_, .ref q0_), (2, 1, a0_, .ref q1_), (2, 5, a0_, .ref q2_), (5, 1, q1_, .ref q3_)]) rfl dX2_readParam_199 (fun f H locs g => ?_)
            subst hQ
            exact W.vret hx hb hr (fun t ht hW => ⟨⟨_, rfl, ⟨x_30, h_31, (g.fcts [6] rfl)⟩, q3_of g hK ht hW⟩, g.2.2.1.F ht⟩) g.2.2.1.2.2 dX2_readParam_202
      · have fc_11 := nlt_f c_11
        have b_46 : bd 3 3 x_3 := leR fc_11 kb_3 bx_3 (by decide)
        refine lv_aload_n hx hb dX2_readParam_78 rfl (lv_at hl 3 rfl) ?_
        refine g_getk (C := RX2) (T := TX2) (N := 16) hx hb hts (mc_ inX2) hown hK g rfl 0 (by decide) rfl (hts _ (List.mem_cons_of_mem _ t_416)) (fun _ h9 => h9) 1 rfl dX2_readParam_79 ?_
        refine lv_iconst (v := 4) hx hb dX2_readParam_82 (by decide) ?_
        refine lv_iload_n hx hb dX2_readParam_83 rfl (lv_at hl 2 rfl) ?_
        have kb_4 : bd 4 4 (4 : Int32) := ⟨by decide, by decide⟩
        refine g_callv (va_runV (As := [.int 4, .int r_1]) (rest := []) ⟨hx, hb, hml, hown, hts⟩ (r_X8_fail l dC dI L kd tys fr_7 H.size g.2.2.2.1 q0_ mq0_ kq0_ 4 kb_4 r_1) (cwV 2 hts (gV_ t_1122 t_1107 t_1108 t_184 t_1109) rfl rfl rfl (by decide +kernel) ⟨(Nat.le_of_ble_eq_true rfl), (Nat.le_of_ble_eq_true rfl)⟩) (pre3V g hK mq0_ kq0_ (by decide) (q := (RX8, TX8, 10)) rfl) rfl rfl hl.1 rfl (lv_room (Nat.le_of_ble_eq_true rfl)) dX2_readParam_84 ⟨(Nat.le_of_ble_eq_true rfl), (Nat.le_of_ble_eq_true rfl)⟩) g hK (by decide) (by decide) (fx' := [(6, 3, q2_, .int x_3), (2, 0, a0_, .ref q0_), (2, 1, a0_, .ref q1_), (2, 5, a0_, .ref q2_), (5, 1, q1_, .ref q3_)]) rfl (fun fr_47 H locs hp hMr_47 g => ?_)
        obtain ⟨x_48, h_49, hF_50⟩ := hp
        have g := g.more hF_50
        refine lv_aload_n hx hb dX2_readParam_87 rfl (lv_at hl 3 rfl) ?_
        refine g_getk (C := RX2) (T := TX2) (N := 16) hx hb hts (mc_ inX2) hown hK g rfl 0 (by decide) rfl (hts _ (List.mem_cons_of_mem _ t_416)) (fun _ h9 => h9) 3 rfl dX2_readParam_88 ?_
        refine g_callv (va_runV (As := []) (rest := []) ⟨hx, hb, hml, hown, hts⟩ (r_X8_next l dC dI L kd tys fr_47 H.size g.2.2.2.1 q0_ mq0_ kq0_) (cwV 0 hts (gV_ t_1131 t_1103 t_1104 t_184 t_1105) rfl rfl rfl (by decide +kernel) ⟨(Nat.le_of_ble_eq_true rfl), (Nat.le_of_ble_eq_true rfl)⟩) (pre3V g hK mq0_ kq0_ (by decide) (q := (RX8, TX8, 10)) rfl) rfl rfl hl.1 rfl (lv_room (Nat.le_of_ble_eq_true rfl)) dX2_readParam_91 ⟨(Nat.le_of_ble_eq_true rfl), (Nat.le_of_ble_eq_true rfl)⟩) g hK (by decide) (by decide) (fx' := [(8, 8, q0_, .int x_48), (6, 3, q2_, .int x_3), (2, 0, a0_, .ref q0_), (2, 1, a0_, .ref q1_), (2, 5, a0_, .ref q2_), (5, 1, q1_, .ref q3_)]) rfl (fun fr_51 H locs hp hMr_51 g => ?_)
        obtain ⟨x_52, h_53, hF_54⟩ := hp
        have g := g.more hF_54
        refine lv_aload_n hx hb dX2_readParam_94 rfl (lv_at hl 3 rfl) ?_
        refine g_getk (C := RX2) (T := TX2) (N := 16) hx hb hts (mc_ inX2) hown hK g rfl 0 (by decide) rfl (hts _ (List.mem_cons_of_mem _ t_416)) (fun _ h9 => h9) 3 rfl dX2_readParam_95 ?_
        refine lv_bipush (v := 15) hx hb dX2_readParam_98 (by decide) ?_
        have gr_55 := g
        refine g_callv (va_runV (As := [.int 15]) (rest := []) ⟨hx, hb, hml, hown, hts⟩ (r_X8_take l dC dI L kd tys fr_51 H.size g.2.2.2.1 q0_ mq0_ kq0_ 15) (cwV 1 hts (gV_ t_1098 t_1099 t_1100 t_184 t_1101) rfl rfl rfl (by decide +kernel) ⟨(Nat.le_of_ble_eq_true rfl), (Nat.le_of_ble_eq_true rfl)⟩) (pre3V g hK mq0_ kq0_ (by decide) (q := (RX8, TX8, 10)) rfl) rfl rfl hl.1 rfl (lv_room (Nat.le_of_ble_eq_true rfl)) dX2_readParam_100 ⟨(Nat.le_of_ble_eq_true rfl), (Nat.le_of_ble_eq_true rfl)⟩) g hK (by decide) (by decide) (fx' := [(6, 3, q2_, .int x_3), (2, 0, a0_, .ref q0_), (2, 1, a0_, .ref q1_), (2, 5, a0_, .ref q2_), (5, 1, q1_, .ref q3_)]) rfl (fun fr_55 H locs hp hMr_55 g => ?_)
        obtain ⟨x_56, bx_56, hFx_56⟩ := stk2 gr_55.2.2.2.2.1 hMr_55 g (by decide) 1 rfl h_49 (by decide)
        have g := g.more hFx_56
        obtain ⟨x_57, h_58, hF_59⟩ := hp
        have g := g.more hF_59
        refine lv_aload_n hx hb dX2_readParam_103 rfl (lv_at hl 3 rfl) ?_
        refine lv_ldc (v := (-2147483648)) hx hb hown (hts _ (List.mem_cons_of_mem _ t_1159)) dX2_readParam_104 ?_
        have gr_60 := g
        refine g_calli (va_runV (As := [.int (-2147483648)]) (rest := []) ⟨hx, hb, hml, hown, hts⟩ (r_X2_readNumber l dC dI L kd tys fr_55 H.size g.2.2.2.1 a0_ ma0_ ka0_ (-2147483648) q0_ mq0_ kq0_ (g.fcts [3] rfl)) (cwV 1 hts (gV_ t_1160 t_1162 t_11 t_183 t_1163) rfl rfl rfl (by decide +kernel) ⟨(Nat.le_of_ble_eq_true rfl), (Nat.le_of_ble_eq_true rfl)⟩) (pre3V g hK ma0_ ka0_ (by decide) (q := (RX2, TX2, 16)) rfl) rfl rfl hl.1 rfl (lv_room (Nat.le_of_ble_eq_true rfl)) dX2_readParam_106 ⟨(Nat.le_of_ble_eq_true rfl), (Nat.le_of_ble_eq_true rfl)⟩) g hK (by decide) (by decide) (fx' := [(6, 3, q2_, .int x_3), (2, 0, a0_, .ref q0_), (2, 1, a0_, .ref q1_), (2, 5, a0_, .ref q2_), (5, 1, q1_, .ref q3_)]) rfl (fun r_60 fr_60 H locs hp hMr_60 g => ?_)
        obtain ⟨x_61, bx_61, hFx_61⟩ := stk2 gr_60.2.2.2.2.1 hMr_60 g (by decide) 1 rfl bx_56 (by decide)
        have g := g.more hFx_61
        obtain ⟨x_62, h_63, hF_64⟩ := hp
        have g := g.more hF_64
        refine lv_istore (lv' := [(5, .int r_60), (4, .int x_3), (2, .long r_2), (1, .int r_1), (0, .ref a0_)]) hx hb dX2_readParam_109 hl (by decide) rfl (fun ls hl => ?_)
        refine lv_aload_n hx hb dX2_readParam_111 rfl (lv_at hl 4 rfl) ?_
        refine g_getk (C := RX2) (T := TX2) (N := 16) hx hb hts (mc_ inX2) hown hK g rfl 0 (by decide) rfl (hts _ (List.mem_cons_of_mem _ t_416)) (fun _ h9 => h9) 3 rfl dX2_readParam_112 ?_
        refine lv_sipush (v := 200) hx hb dX2_readParam_115 (by decide) ?_
        have gr_65 := g
        refine g_callv (va_runV (As := [.int 200]) (rest := []) ⟨hx, hb, hml, hown, hts⟩ (r_X8_take l dC dI L kd tys fr_60 H.size g.2.2.2.1 q0_ mq0_ kq0_ 200) (cwV 1 hts (gV_ t_1098 t_1099 t_1100 t_184 t_1101) rfl rfl rfl (by decide +kernel) ⟨(Nat.le_of_ble_eq_true rfl), (Nat.le_of_ble_eq_true rfl)⟩) (pre3V g hK mq0_ kq0_ (by decide) (q := (RX8, TX8, 10)) rfl) rfl rfl hl.1 rfl (lv_room (Nat.le_of_ble_eq_true rfl)) dX2_readParam_118 ⟨(Nat.le_of_ble_eq_true rfl), (Nat.le_of_ble_eq_true rfl)⟩) g hK (by decide) (by decide) (fx' := [(6, 3, q2_, .int x_3), (2, 0, a0_, .ref q0_), (2, 1, a0_, .ref q1_), (2, 5, a0_, .ref q2_), (5, 1, q1_, .ref q3_)]) rfl (fun fr_65 H locs hp hMr_65 g => ?_)
        obtain ⟨x_66, bx_66, hFx_66⟩ := stk2 gr_65.2.2.2.2.1 hMr_65 g (by decide) 1 rfl bx_61 (by decide)
        have g := g.more hFx_66
        obtain ⟨x_67, h_68, hF_69⟩ := hp
        have g := g.more hF_69
        refine lv_aload_n hx hb dX2_readParam_121 rfl (lv_at hl 4 rfl) ?_
        refine lv_iload hx hb dX2_readParam_122 (lv_at hl 0 rfl) ?_
        have gr_70 := g
        refine g_calli (va_runV (As := [.int r_60]) (rest := []) ⟨hx, hb, hml, hown, hts⟩ (r_X2_readNumber l dC dI L kd tys fr_65 H.size g.2.2.2.1 a0_ ma0_ ka0_ r_60 q0_ mq0_ kq0_ (g.fcts [3] rfl)) (cwV 1 hts (gV_ t_1160 t_1162 t_11 t_183 t_1163) rfl rfl rfl (by decide +kernel) ⟨(Nat.le_of_ble_eq_true rfl), (Nat.le_of_ble_eq_true rfl)⟩) (pre3V g hK ma0_ ka0_ (by decide) (q := (RX2, TX2, 16)) rfl) rfl rfl hl.1 rfl (lv_room (Nat.le_of_ble_eq_true rfl)) dX2_readParam_124 ⟨(Nat.le_of_ble_eq_true rfl), (Nat.le_of_ble_eq_true rfl)⟩) g hK (by decide) (by decide) (fx' := [(6, 3, q2_, .int x_3), (2, 0, a0_, .ref q0_), (2, 1, a0_, .ref q1_), (2, 5, a0_, .ref q2_), (5, 1, q1_, .ref q3_)]) rfl (fun r_70 fr_70 H locs hp hMr_70 g => ?_)
        obtain ⟨x_71, bx_71, hFx_71⟩ := stk2 gr_70.2.2.2.2.1 hMr_70 g (by decide) 1 rfl bx_66 (by decide)
        have g := g.more hFx_71
        obtain ⟨x_72, h_73, hF_74⟩ := hp
        have g := g.more hF_74
        refine lv_istore (lv' := [(6, .int r_70), (5, .int r_60), (4, .int x_3), (2, .long r_2), (1, .int r_1), (0, .ref a0_)]) hx hb dX2_readParam_127 hl (by decide) rfl (fun ls hl => ?_)
        refine lv_aload_n hx hb dX2_readParam_129 rfl (lv_at hl 5 rfl) ?_
        refine g_getk (C := RX2) (T := TX2) (N := 16) hx hb hts (mc_ inX2) hown hK g rfl 0 (by decide) rfl (hts _ (List.mem_cons_of_mem _ t_416)) (fun _ h9 => h9) 3 rfl dX2_readParam_130 ?_
        refine g_getk (C := RX8) (T := TX8) (N := 10) hx hb hts (mc_ inX8) hown hK g rfl 8 (by decide) rfl (hts _ (List.mem_cons_of_mem _ t_294)) (fun _ h9 => h9) 1 rfl dX2_readParam_133 ?_
        have kb_0 : bd 0 0 (0 : Int32) := ⟨by decide, by decide⟩
        refine lv_if_ne (tgt := 202) hx hb dX2_readParam_136 (by decide) (fun c_75 => ?_) (fun c_75 => ?_)
        · have fc_75 := neq_f c_75
          subst hQ
          exact W.vret hx hb hr (fun t ht hW => ⟨⟨_, rfl, ⟨x_72, h_73, (g.fcts [0] rfl)⟩, q3_of g hK ht hW⟩, g.2.2.1.F ht⟩) g.2.2.1.2.2 dX2_readParam_202
        · have fc_75 := eq_f c_75
          have b_76 : bd 1 0 x_71 := eqX fc_75 bx_71 kb_0 (by decide)
          exact bd_no b_76 (by decide)
    · have fc_9 := neq_f c_9
      have b_77 : bd 0 26 r_7 := neX fc_9 h_8 kb_m1 (by decide)
      refine lv_aload_n hx hb dX2_readParam_60 rfl (lv_at hl 3 rfl) ?_
      refine g_getk (C := RX2) (T := TX2) (N := 16) hx hb hts (mc_ inX2) hown hK g rfl 0 (by decide) rfl (hts _ (List.mem_cons_of_mem _ t_416)) (fun _ h9 => h9) 1 rfl dX2_readParam_61 ?_
      refine lv_iconst (v := 2) hx hb dX2_readParam_64 (by decide) ?_
      refine lv_iload_n hx hb dX2_readParam_65 rfl (lv_at hl 2 rfl) ?_
      have kb_2 : bd 2 2 (2 : Int32) := ⟨by decide, by decide⟩
      refine g_callv (va_runV (As := [.int 2, .int r_1]) (rest := []) ⟨hx, hb, hml, hown, hts⟩ (r_X8_fail_14 l dC dI L kd tys fr_7 H.size g.2.2.2.1 q0_ mq0_ kq0_ 2 kb_2 r_1) (cwV 2 hts (gV_ t_1122 t_1107 t_1108 t_184 t_1109) rfl rfl rfl (by decide +kernel) ⟨(Nat.le_of_ble_eq_true rfl), (Nat.le_of_ble_eq_true rfl)⟩) (pre3V g hK mq0_ kq0_ (by decide) (q := (RX8, TX8, 10)) rfl) rfl rfl hl.1 rfl (lv_room (Nat.le_of_ble_eq_true rfl)) dX2_readParam_66 ⟨(Nat.le_of_ble_eq_true rfl), (Nat.le_of_ble_eq_true rfl)⟩) g hK (by decide) (by decide) (fx' := [(6, 3, q2_, .int x_3), (2, 0, a0_, .ref q0_), (2, 1, a0_, .ref q1_), (2, 5, a0_, .ref q2_), (5, 1, q1_, .ref q3_)]) rfl (fun fr_78 H locs hp hMr_78 g => ?_)
      obtain ⟨x_79, h_80, hF_81⟩ := hp
      have g := g.more hF_81
      refine lv_goto (tgt := 87) hx hb dX2_readParam_69 (by decide) ?_
      refine lv_aload_n hx hb dX2_readParam_87 rfl (lv_at hl 3 rfl) ?_
      refine g_getk (C := RX2) (T := TX2) (N := 16) hx hb hts (mc_ inX2) hown hK g rfl 0 (by decide) rfl (hts _ (List.mem_cons_of_mem _ t_416)) (fun _ h9 => h9) 3 rfl dX2_readParam_88 ?_
      refine g_callv (va_runV (As := []) (rest := []) ⟨hx, hb, hml, hown, hts⟩ (r_X8_next l dC dI L kd tys fr_78 H.size g.2.2.2.1 q0_ mq0_ kq0_) (cwV 0 hts (gV_ t_1131 t_1103 t_1104 t_184 t_1105) rfl rfl rfl (by decide +kernel) ⟨(Nat.le_of_ble_eq_true rfl), (Nat.le_of_ble_eq_true rfl)⟩) (pre3V g hK mq0_ kq0_ (by decide) (q := (RX8, TX8, 10)) rfl) rfl rfl hl.1 rfl (lv_room (Nat.le_of_ble_eq_true rfl)) dX2_readParam_91 ⟨(Nat.le_of_ble_eq_true rfl), (Nat.le_of_ble_eq_true rfl)⟩) g hK (by decide) (by decide) (fx' := [(8, 8, q0_, .int x_79), (6, 3, q2_, .int x_3), (2, 0, a0_, .ref q0_), (2, 1, a0_, .ref q1_), (2, 5, a0_, .ref q2_), (5, 1, q1_, .ref q3_)]) rfl (fun fr_82 H locs hp hMr_82 g => ?_)
      obtain ⟨x_83, h_84, hF_85⟩ := hp
      have g := g.more hF_85
      refine lv_aload_n hx hb dX2_readParam_94 rfl (lv_at hl 3 rfl) ?_
      refine g_getk (C := RX2) (T := TX2) (N := 16) hx hb hts (mc_ inX2) hown hK g rfl 0 (by decide) rfl (hts _ (List.mem_cons_of_mem _ t_416)) (fun _ h9 => h9) 3 rfl dX2_readParam_95 ?_
      refine lv_bipush (v := 15) hx hb dX2_readParam_98 (by decide) ?_
      have gr_86 := g
      refine g_callv (va_runV (As := [.int 15]) (rest := []) ⟨hx, hb, hml, hown, hts⟩ (r_X8_take l dC dI L kd tys fr_82 H.size g.2.2.2.1 q0_ mq0_ kq0_ 15) (cwV 1 hts (gV_ t_1098 t_1099 t_1100 t_184 t_1101) rfl rfl rfl (by decide +kernel) ⟨(Nat.le_of_ble_eq_true rfl), (Nat.le_of_ble_eq_true rfl)⟩) (pre3V g hK mq0_ kq0_ (by decide) (q := (RX8, TX8, 10)) rfl) rfl rfl hl.1 rfl (lv_room (Nat.le_of_ble_eq_true rfl)) dX2_readParam_100 ⟨(Nat.le_of_ble_eq_true rfl), (Nat.le_of_ble_eq_true rfl)⟩) g hK (by decide) (by decide) (fx' := [(6, 3, q2_, .int x_3), (2, 0, a0_, .ref q0_), (2, 1, a0_, .ref q1_), (2, 5, a0_, .ref q2_), (5, 1, q1_, .ref q3_)]) rfl (fun fr_86 H locs hp hMr_86 g => ?_)
      obtain ⟨x_87, bx_87, hFx_87⟩ := stk2 gr_86.2.2.2.2.1 hMr_86 g (by decide) 1 rfl h_80 (by decide)
      have g := g.more hFx_87
      obtain ⟨x_88, h_89, hF_90⟩ := hp
      have g := g.more hF_90
      refine lv_aload_n hx hb dX2_readParam_103 rfl (lv_at hl 3 rfl) ?_
      refine lv_ldc (v := (-2147483648)) hx hb hown (hts _ (List.mem_cons_of_mem _ t_1159)) dX2_readParam_104 ?_
      have gr_91 := g
      refine g_calli (va_runV (As := [.int (-2147483648)]) (rest := []) ⟨hx, hb, hml, hown, hts⟩ (r_X2_readNumber l dC dI L kd tys fr_86 H.size g.2.2.2.1 a0_ ma0_ ka0_ (-2147483648) q0_ mq0_ kq0_ (g.fcts [3] rfl)) (cwV 1 hts (gV_ t_1160 t_1162 t_11 t_183 t_1163) rfl rfl rfl (by decide +kernel) ⟨(Nat.le_of_ble_eq_true rfl), (Nat.le_of_ble_eq_true rfl)⟩) (pre3V g hK ma0_ ka0_ (by decide) (q := (RX2, TX2, 16)) rfl) rfl rfl hl.1 rfl (lv_room (Nat.le_of_ble_eq_true rfl)) dX2_readParam_106 ⟨(Nat.le_of_ble_eq_true rfl), (Nat.le_of_ble_eq_true rfl)⟩) g hK (by decide) (by decide) (fx' := [(6, 3, q2_, .int x_3), (2, 0, a0_, .ref q0_), (2, 1, a0_, .ref q1_), (2, 5, a0_, .ref q2_), (5, 1, q1_, .ref q3_)]) rfl (fun r_91 fr_91 H locs hp hMr_91 g => ?_)
      obtain ⟨x_92, bx_92, hFx_92⟩ := stk2 gr_91.2.2.2.2.1 hMr_91 g (by decide) 1 rfl bx_87 (by decide)
      have g := g.more hFx_92
      obtain ⟨x_93, h_94, hF_95⟩ := hp
      have g := g.more hF_95
      refine lv_istore (lv' := [(5, .int r_91), (4, .int x_3), (2, .long r_2), (1, .int r_1), (0, .ref a0_)]) hx hb dX2_readParam_109 hl (by decide) rfl (fun ls hl => ?_)
      refine lv_aload_n hx hb dX2_readParam_111 rfl (lv_at hl 4 rfl) ?_
      refine g_getk (C := RX2) (T := TX2) (N := 16) hx hb hts (mc_ inX2) hown hK g rfl 0 (by decide) rfl (hts _ (List.mem_cons_of_mem _ t_416)) (fun _ h9 => h9) 3 rfl dX2_readParam_112 ?_
      refine lv_sipush (v := 200) hx hb dX2_readParam_115 (by decide) ?_
      have gr_96 := g
      refine g_callv (va_runV (As := [.int 200]) (rest := []) ⟨hx, hb, hml, hown, hts⟩ (r_X8_take l dC dI L kd tys fr_91 H.size g.2.2.2.1 q0_ mq0_ kq0_ 200) (cwV 1 hts (gV_ t_1098 t_1099 t_1100 t_184 t_1101) rfl rfl rfl (by decide +kernel) ⟨(Nat.le_of_ble_eq_true rfl), (Nat.le_of_ble_eq_true rfl)⟩) (pre3V g hK mq0_ kq0_ (by decide) (q := (RX8, TX8, 10)) rfl) rfl rfl hl.1 rfl (lv_room (Nat.le_of_ble_eq_true rfl)) dX2_readParam_118 ⟨(Nat.le_of_ble_eq_true rfl), (Nat.le_of_ble_eq_true rfl)⟩) g hK (by decide) (by decide) (fx' := [(6, 3, q2_, .int x_3), (2, 0, a0_, .ref q0_), (2, 1, a0_, .ref q1_), (2, 5, a0_, .ref q2_), (5, 1, q1_, .ref q3_)]) rfl (fun fr_96 H locs hp hMr_96 g => ?_)
      obtain ⟨x_97, bx_97, hFx_97⟩ := stk2 gr_96.2.2.2.2.1 hMr_96 g (by decide) 1 rfl bx_92 (by decide)
      have g := g.more hFx_97
      obtain ⟨x_98, h_99, hF_100⟩ := hp
      have g := g.more hF_100
      refine lv_aload_n hx hb dX2_readParam_121 rfl (lv_at hl 4 rfl) ?_
      refine lv_iload hx hb dX2_readParam_122 (lv_at hl 0 rfl) ?_
      have gr_101 := g
      refine g_calli (va_runV (As := [.int r_91]) (rest := []) ⟨hx, hb, hml, hown, hts⟩ (r_X2_readNumber l dC dI L kd tys fr_96 H.size g.2.2.2.1 a0_ ma0_ ka0_ r_91 q0_ mq0_ kq0_ (g.fcts [3] rfl)) (cwV 1 hts (gV_ t_1160 t_1162 t_11 t_183 t_1163) rfl rfl rfl (by decide +kernel) ⟨(Nat.le_of_ble_eq_true rfl), (Nat.le_of_ble_eq_true rfl)⟩) (pre3V g hK ma0_ ka0_ (by decide) (q := (RX2, TX2, 16)) rfl) rfl rfl hl.1 rfl (lv_room (Nat.le_of_ble_eq_true rfl)) dX2_readParam_124 ⟨(Nat.le_of_ble_eq_true rfl), (Nat.le_of_ble_eq_true rfl)⟩) g hK (by decide) (by decide) (fx' := [(6, 3, q2_, .int x_3), (2, 0, a0_, .ref q0_), (2, 1, a0_, .ref q1_), (2, 5, a0_, .ref q2_), (5, 1, q1_, .ref q3_)]) rfl (fun r_101 fr_101 H locs hp hMr_101 g => ?_)
      obtain ⟨x_102, bx_102, hFx_102⟩ := stk2 gr_101.2.2.2.2.1 hMr_101 g (by decide) 1 rfl bx_97 (by decide)
      have g := g.more hFx_102
      obtain ⟨x_103, h_104, hF_105⟩ := hp
      have g := g.more hF_105
      refine lv_istore (lv' := [(6, .int r_101), (5, .int r_91), (4, .int x_3), (2, .long r_2), (1, .int r_1), (0, .ref a0_)]) hx hb dX2_readParam_127 hl (by decide) rfl (fun ls hl => ?_)
      refine lv_aload_n hx hb dX2_readParam_129 rfl (lv_at hl 5 rfl) ?_
      refine g_getk (C := RX2) (T := TX2) (N := 16) hx hb hts (mc_ inX2) hown hK g rfl 0 (by decide) rfl (hts _ (List.mem_cons_of_mem _ t_416)) (fun _ h9 => h9) 3 rfl dX2_readParam_130 ?_
      refine g_getk (C := RX8) (T := TX8) (N := 10) hx hb hts (mc_ inX8) hown hK g rfl 8 (by decide) rfl (hts _ (List.mem_cons_of_mem _ t_294)) (fun _ h9 => h9) 1 rfl dX2_readParam_133 ?_
      have kb_0 : bd 0 0 (0 : Int32) := ⟨by decide, by decide⟩
      refine lv_if_ne (tgt := 202) hx hb dX2_readParam_136 (by decide) (fun c_106 => ?_) (fun c_106 => ?_)
      · have fc_106 := neq_f c_106
        subst hQ
        exact W.vret hx hb hr (fun t ht hW => ⟨⟨_, rfl, ⟨x_103, h_104, (g.fcts [0] rfl)⟩, q3_of g hK ht hW⟩, g.2.2.1.F ht⟩) g.2.2.1.2.2 dX2_readParam_202
      · have fc_106 := eq_f c_106
        have b_107 : bd 1 0 x_102 := eqX fc_106 bx_102 kb_0 (by decide)
        exact bd_no b_107 (by decide)
  · have fc_5 := neq_f c_5
    refine lv_aload_n hx hb dX2_readParam_36 rfl (lv_at hl 3 rfl) ?_
    refine g_getk (C := RX2) (T := TX2) (N := 16) hx hb hts (mc_ inX2) hown hK g rfl 0 (by decide) rfl (hts _ (List.mem_cons_of_mem _ t_416)) (fun _ h9 => h9) 1 rfl dX2_readParam_37 ?_
    refine lv_iconst (v := 1) hx hb dX2_readParam_40 (by decide) ?_
    refine lv_iload_n hx hb dX2_readParam_41 rfl (lv_at hl 2 rfl) ?_
    have kb_1 : bd 1 1 (1 : Int32) := ⟨by decide, by decide⟩
    refine g_callv (va_runV (As := [.int 1, .int r_1]) (rest := []) ⟨hx, hb, hml, hown, hts⟩ (r_X8_fail_6 l dC dI L kd tys fr_4 H.size g.2.2.2.1 q0_ mq0_ kq0_ 1 kb_1 r_1) (cwV 2 hts (gV_ t_1122 t_1107 t_1108 t_184 t_1109) rfl rfl rfl (by decide +kernel) ⟨(Nat.le_of_ble_eq_true rfl), (Nat.le_of_ble_eq_true rfl)⟩) (pre3V g hK mq0_ kq0_ (by decide) (q := (RX8, TX8, 10)) rfl) rfl rfl hl.1 rfl (lv_room (Nat.le_of_ble_eq_true rfl)) dX2_readParam_42 ⟨(Nat.le_of_ble_eq_true rfl), (Nat.le_of_ble_eq_true rfl)⟩) g hK (by decide) (by decide) (fx' := [(6, 3, q2_, .int x_3), (2, 0, a0_, .ref q0_), (2, 1, a0_, .ref q1_), (2, 5, a0_, .ref q2_), (5, 1, q1_, .ref q3_)]) rfl (fun fr_108 H locs hp hMr_108 g => ?_)
    obtain ⟨x_109, h_110, hF_111⟩ := hp
    have g := g.more hF_111
    refine lv_goto (tgt := 87) hx hb dX2_readParam_45 (by decide) ?_
    refine lv_aload_n hx hb dX2_readParam_87 rfl (lv_at hl 3 rfl) ?_
    refine g_getk (C := RX2) (T := TX2) (N := 16) hx hb hts (mc_ inX2) hown hK g rfl 0 (by decide) rfl (hts _ (List.mem_cons_of_mem _ t_416)) (fun _ h9 => h9) 3 rfl dX2_readParam_88 ?_
    refine g_callv (va_runV (As := []) (rest := []) ⟨hx, hb, hml, hown, hts⟩ (r_X8_next l dC dI L kd tys fr_108 H.size g.2.2.2.1 q0_ mq0_ kq0_) (cwV 0 hts (gV_ t_1131 t_1103 t_1104 t_184 t_1105) rfl rfl rfl (by decide +kernel) ⟨(Nat.le_of_ble_eq_true rfl), (Nat.le_of_ble_eq_true rfl)⟩) (pre3V g hK mq0_ kq0_ (by decide) (q := (RX8, TX8, 10)) rfl) rfl rfl hl.1 rfl (lv_room (Nat.le_of_ble_eq_true rfl)) dX2_readParam_91 ⟨(Nat.le_of_ble_eq_true rfl), (Nat.le_of_ble_eq_true rfl)⟩) g hK (by decide) (by decide) (fx' := [(8, 8, q0_, .int x_109), (6, 3, q2_, .int x_3), (2, 0, a0_, .ref q0_), (2, 1, a0_, .ref q1_), (2, 5, a0_, .ref q2_), (5, 1, q1_, .ref q3_)]) rfl (fun fr_112 H locs hp hMr_112 g => ?_)
    obtain ⟨x_113, h_114, hF_115⟩ := hp
    have g := g.more hF_115
    refine lv_aload_n hx hb dX2_readParam_94 rfl (lv_at hl 3 rfl) ?_
    refine g_getk (C := RX2) (T := TX2) (N := 16) hx hb hts (mc_ inX2) hown hK g rfl 0 (by decide) rfl (hts _ (List.mem_cons_of_mem _ t_416)) (fun _ h9 => h9) 3 rfl dX2_readParam_95 ?_
    refine lv_bipush (v := 15) hx hb dX2_readParam_98 (by decide) ?_
    have gr_116 := g
    refine g_callv (va_runV (As := [.int 15]) (rest := []) ⟨hx, hb, hml, hown, hts⟩ (r_X8_take l dC dI L kd tys fr_112 H.size g.2.2.2.1 q0_ mq0_ kq0_ 15) (cwV 1 hts (gV_ t_1098 t_1099 t_1100 t_184 t_1101) rfl rfl rfl (by decide +kernel) ⟨(Nat.le_of_ble_eq_true rfl), (Nat.le_of_ble_eq_true rfl)⟩) (pre3V g hK mq0_ kq0_ (by decide) (q := (RX8, TX8, 10)) rfl) rfl rfl hl.1 rfl (lv_room (Nat.le_of_ble_eq_true rfl)) dX2_readParam_100 ⟨(Nat.le_of_ble_eq_true rfl), (Nat.le_of_ble_eq_true rfl)⟩) g hK (by decide) (by decide) (fx' := [(6, 3, q2_, .int x_3), (2, 0, a0_, .ref q0_), (2, 1, a0_, .ref q1_), (2, 5, a0_, .ref q2_), (5, 1, q1_, .ref q3_)]) rfl (fun fr_116 H locs hp hMr_116 g => ?_)
    obtain ⟨x_117, bx_117, hFx_117⟩ := stk2 gr_116.2.2.2.2.1 hMr_116 g (by decide) 1 rfl h_110 (by decide)
    have g := g.more hFx_117
    obtain ⟨x_118, h_119, hF_120⟩ := hp
    have g := g.more hF_120
    refine lv_aload_n hx hb dX2_readParam_103 rfl (lv_at hl 3 rfl) ?_
    refine lv_ldc (v := (-2147483648)) hx hb hown (hts _ (List.mem_cons_of_mem _ t_1159)) dX2_readParam_104 ?_
    have gr_121 := g
    refine g_calli (va_runV (As := [.int (-2147483648)]) (rest := []) ⟨hx, hb, hml, hown, hts⟩ (r_X2_readNumber l dC dI L kd tys fr_116 H.size g.2.2.2.1 a0_ ma0_ ka0_ (-2147483648) q0_ mq0_ kq0_ (g.fcts [3] rfl)) (cwV 1 hts (gV_ t_1160 t_1162 t_11 t_183 t_1163) rfl rfl rfl (by decide +kernel) ⟨(Nat.le_of_ble_eq_true rfl), (Nat.le_of_ble_eq_true rfl)⟩) (pre3V g hK ma0_ ka0_ (by decide) (q := (RX2, TX2, 16)) rfl) rfl rfl hl.1 rfl (lv_room (Nat.le_of_ble_eq_true rfl)) dX2_readParam_106 ⟨(Nat.le_of_ble_eq_true rfl), (Nat.le_of_ble_eq_true rfl)⟩) g hK (by decide) (by decide) (fx' := [(6, 3, q2_, .int x_3), (2, 0, a0_, .ref q0_), (2, 1, a0_, .ref q1_), (2, 5, a0_, .ref q2_), (5, 1, q1_, .ref q3_)]) rfl (fun r_121 fr_121 H locs hp hMr_121 g => ?_)
    obtain ⟨x_122, bx_122, hFx_122⟩ := stk2 gr_121.2.2.2.2.1 hMr_121 g (by decide) 1 rfl bx_117 (by decide)
    have g := g.more hFx_122
    obtain ⟨x_123, h_124, hF_125⟩ := hp
    have g := g.more hF_125
    refine lv_istore (lv' := [(5, .int r_121), (4, .int x_3), (2, .long r_2), (1, .int r_1), (0, .ref a0_)]) hx hb dX2_readParam_109 hl (by decide) rfl (fun ls hl => ?_)
    refine lv_aload_n hx hb dX2_readParam_111 rfl (lv_at hl 4 rfl) ?_
    refine g_getk (C := RX2) (T := TX2) (N := 16) hx hb hts (mc_ inX2) hown hK g rfl 0 (by decide) rfl (hts _ (List.mem_cons_of_mem _ t_416)) (fun _ h9 => h9) 3 rfl dX2_readParam_112 ?_
    refine lv_sipush (v := 200) hx hb dX2_readParam_115 (by decide) ?_
    have gr_126 := g
    refine g_callv (va_runV (As := [.int 200]) (rest := []) ⟨hx, hb, hml, hown, hts⟩ (r_X8_take l dC dI L kd tys fr_121 H.size g.2.2.2.1 q0_ mq0_ kq0_ 200) (cwV 1 hts (gV_ t_1098 t_1099 t_1100 t_184 t_1101) rfl rfl rfl (by decide +kernel) ⟨(Nat.le_of_ble_eq_true rfl), (Nat.le_of_ble_eq_true rfl)⟩) (pre3V g hK mq0_ kq0_ (by decide) (q := (RX8, TX8, 10)) rfl) rfl rfl hl.1 rfl (lv_room (Nat.le_of_ble_eq_true rfl)) dX2_readParam_118 ⟨(Nat.le_of_ble_eq_true rfl), (Nat.le_of_ble_eq_true rfl)⟩) g hK (by decide) (by decide) (fx' := [(6, 3, q2_, .int x_3), (2, 0, a0_, .ref q0_), (2, 1, a0_, .ref q1_), (2, 5, a0_, .ref q2_), (5, 1, q1_, .ref q3_)]) rfl (fun fr_126 H locs hp hMr_126 g => ?_)
    obtain ⟨x_127, bx_127, hFx_127⟩ := stk2 gr_126.2.2.2.2.1 hMr_126 g (by decide) 1 rfl bx_122 (by decide)
    have g := g.more hFx_127
    obtain ⟨x_128, h_129, hF_130⟩ := hp
    have g := g.more hF_130
    refine lv_aload_n hx hb dX2_readParam_121 rfl (lv_at hl 4 rfl) ?_
    refine lv_iload hx hb dX2_readParam_122 (lv_at hl 0 rfl) ?_
    have gr_131 := g
    refine g_calli (va_runV (As := [.int r_121]) (rest := []) ⟨hx, hb, hml, hown, hts⟩ (r_X2_readNumber l dC dI L kd tys fr_126 H.size g.2.2.2.1 a0_ ma0_ ka0_ r_121 q0_ mq0_ kq0_ (g.fcts [3] rfl)) (cwV 1 hts (gV_ t_1160 t_1162 t_11 t_183 t_1163) rfl rfl rfl (by decide +kernel) ⟨(Nat.le_of_ble_eq_true rfl), (Nat.le_of_ble_eq_true rfl)⟩) (pre3V g hK ma0_ ka0_ (by decide) (q := (RX2, TX2, 16)) rfl) rfl rfl hl.1 rfl (lv_room (Nat.le_of_ble_eq_true rfl)) dX2_readParam_124 ⟨(Nat.le_of_ble_eq_true rfl), (Nat.le_of_ble_eq_true rfl)⟩) g hK (by decide) (by decide) (fx' := [(6, 3, q2_, .int x_3), (2, 0, a0_, .ref q0_), (2, 1, a0_, .ref q1_), (2, 5, a0_, .ref q2_), (5, 1, q1_, .ref q3_)]) rfl (fun r_131 fr_131 H locs hp hMr_131 g => ?_)
    obtain ⟨x_132, bx_132, hFx_132⟩ := stk2 gr_131.2.2.2.2.1 hMr_131 g (by decide) 1 rfl bx_127 (by decide)
    have g := g.more hFx_132
    obtain ⟨x_133, h_134, hF_135⟩ := hp
    have g := g.more hF_135
    refine lv_istore (lv' := [(6, .int r_131), (5, .int r_121), (4, .int x_3), (2, .long r_2), (1, .int r_1), (0, .ref a0_)]) hx hb dX2_readParam_127 hl (by decide) rfl (fun ls hl => ?_)
    refine lv_aload_n hx hb dX2_readParam_129 rfl (lv_at hl 5 rfl) ?_
    refine g_getk (C := RX2) (T := TX2) (N := 16) hx hb hts (mc_ inX2) hown hK g rfl 0 (by decide) rfl (hts _ (List.mem_cons_of_mem _ t_416)) (fun _ h9 => h9) 3 rfl dX2_readParam_130 ?_
    refine g_getk (C := RX8) (T := TX8) (N := 10) hx hb hts (mc_ inX8) hown hK g rfl 8 (by decide) rfl (hts _ (List.mem_cons_of_mem _ t_294)) (fun _ h9 => h9) 1 rfl dX2_readParam_133 ?_
    have kb_0 : bd 0 0 (0 : Int32) := ⟨by decide, by decide⟩
    refine lv_if_ne (tgt := 202) hx hb dX2_readParam_136 (by decide) (fun c_136 => ?_) (fun c_136 => ?_)
    · have fc_136 := neq_f c_136
      subst hQ
      exact W.vret hx hb hr (fun t ht hW => ⟨⟨_, rfl, ⟨x_133, h_134, (g.fcts [0] rfl)⟩, q3_of g hK ht hW⟩, g.2.2.1.F ht⟩) g.2.2.1.2.2 dX2_readParam_202
    · have fc_136 := eq_f c_136
      have b_137 : bd 1 0 x_132 := eqX fc_136 bx_132 kb_0 (by decide)
      exact bd_no b_137 (by decide)
set_option maxHeartbeats 4000000 in
set_option maxRecDepth 100000 in
theorem r_X2_atMark (l : Launch) (dC : Nat → ClassId) (dI : Nat → Nat → Nat) (L : List Nat) (kd : Nat → Nat) (tys : List (ClassId × FieldType)) (f0 : Nat → va_E) (sz : Nat) (hWT : WT L kd tys f0) (a0_ : Nat) (ma0_ : a0_ ∈ L) (ka0_ : kd a0_ = 2) : Met l yX2_atMark (.code yX2_atMark cX2_atMark 2 (some .boolean) :: lw_g) ({ frames := 1, cells := 0, slots := 0, locals := 20 }) (va_Pc [.ref a0_] (P3 (dC, dI) L tys f0 sz)) (va_Qi (fun (r : Int32) (f : Nat → va_E) => (r = 0 ∧ True) ∨ (r = 1 ∧ True)) (Q3 (dC, dI) L kd tys [] [] f0 sz) (pA L sz)) 0 0 (pA L sz) := by
  refine Met.ofW (cc := cX2_atMark) (maxL := 2) (ret := (some .boolean)) (by decide) rfl ?_
  intro p e s m args below meth c s₁ B hml hv
  obtain ⟨rfl, hsz, hP, hK, hD0⟩ := hv
  have hx := B.exec
  have hb := B.bytes
  have hr := B.returns
  have hts := atoms_spec (ws := (.code yX2_atMark cX2_atMark 2 (some .boolean) :: lw_g)) B.pre
  have hown : s.vm.findClass RX2 = some m.cls := findClass_of_methodNamed B.named
  have hlocks := B.notSynchronized
  subst hsz
  have g : G3 (dC, dI) L kd tys s f0 [] [] f0 s.heap [] [] := G3.start hP hD0 hWT Fs.nil
  have hl := lv_entry ([.ref a0_]) (n := 2) (Nat.le_of_ble_eq_true rfl)
  rw [lg_entry_eq]
  generalize (lg_sl ([.ref a0_]) ++ List.replicate (2 - (lg_sl ([.ref a0_])).length) Slot.unset).toArray = ls at hl ⊢
  have hl : lv_has ls 2 [(0, .ref a0_)] := hl
  refine W_q (fun Q hQ => ?_)
  refine lv_aload_n hx hb dX2_atMark_0 rfl (lv_at hl 0 rfl) ?_
  refine g_getr (K := 8) (C := RX2) (T := TX2) (N := 16) hx hb hts (mc_ inX2) hown hK g ma0_ ka0_ (by decide) rfl 0 (by decide) rfl (hts _ (List.mem_cons_of_mem _ t_416)) (fun _ h9 => h9) rfl dX2_atMark_1 (fun a_1 ma_1 ka_1 g => ?_)
  refine g_calli (va_runV (As := []) (rest := []) ⟨hx, hb, hml, hown, hts⟩ (r_X8_kind l dC dI L kd tys f0 s.heap.size g.2.2.2.1 a_1 ma_1 ka_1) (cwV 0 hts (gV_ t_1118 t_1119 t_1120 t_184 t_1121) rfl rfl rfl (by decide +kernel) ⟨(Nat.le_of_ble_eq_true rfl), (Nat.le_of_ble_eq_true rfl)⟩) (pre3V g hK ma_1 ka_1 (by decide) (q := (RX8, TX8, 10)) rfl) rfl rfl hl.1 rfl (lv_room (Nat.le_of_ble_eq_true rfl)) dX2_atMark_4 ⟨(Nat.le_of_ble_eq_true rfl), (Nat.le_of_ble_eq_true rfl)⟩) g hK (by decide) (by decide) (fx' := [(2, 0, a0_, .ref a_1)]) rfl (fun r_2 fr_2 H locs hp hMr_2 g => ?_)
  refine lv_istore_n (lv' := [(1, .int r_2), (0, .ref a0_)]) hx hb dX2_atMark_7 rfl hl (by decide) rfl (fun ls hl => ?_)
  refine lv_iload_n hx hb dX2_atMark_8 rfl (lv_at hl 0 rfl) ?_
  refine lv_bipush (v := 16) hx hb dX2_atMark_9 (by decide) ?_
  have kb_16 : bd 16 16 (16 : Int32) := ⟨by decide, by decide⟩
  refine lv_icmp_eq (tgt := 38) hx hb dX2_atMark_11 (by decide) (fun c_3 => ?_) (fun c_3 => ?_)
  · have fc_3 := eq_f c_3
    have b_4 : bd 16 16 r_2 := eqX fc_3 (bdT r_2) kb_16 (by decide)
    refine lv_iconst (v := 1) hx hb dX2_atMark_38 (by decide) ?_
    refine lv_goto (tgt := 43) hx hb dX2_atMark_39 (by decide) ?_
    subst hQ
    have kb_1 : bd 1 1 (1 : Int32) := ⟨by decide, by decide⟩
    exact W.zret (v := 1) hx hb hr (nar_z (bd_sub kb_1 (by decide) : bd 0 1 _).1 (bd_sub kb_1 (by decide) : bd 0 1 _).2) (fun t ht hW => ⟨⟨_, _, rfl, Or.inr (⟨rfl, trivial⟩), q3_of g hK ht hW⟩, g.2.2.1.F ht⟩) g.2.2.1.2.2 dX2_atMark_43
  · have fc_3 := neq_f c_3
    refine lv_iload_n hx hb dX2_atMark_14 rfl (lv_at hl 0 rfl) ?_
    refine lv_bipush (v := 17) hx hb dX2_atMark_15 (by decide) ?_
    have kb_17 : bd 17 17 (17 : Int32) := ⟨by decide, by decide⟩
    refine lv_icmp_eq (tgt := 38) hx hb dX2_atMark_17 (by decide) (fun c_5 => ?_) (fun c_5 => ?_)
    · have fc_5 := eq_f c_5
      have b_6 : bd 17 17 r_2 := eqX fc_5 (bdT r_2) kb_17 (by decide)
      refine lv_iconst (v := 1) hx hb dX2_atMark_38 (by decide) ?_
      refine lv_goto (tgt := 43) hx hb dX2_atMark_39 (by decide) ?_
      subst hQ
      have kb_1 : bd 1 1 (1 : Int32) := ⟨by decide, by decide⟩
      exact W.zret (v := 1) hx hb hr (nar_z (bd_sub kb_1 (by decide) : bd 0 1 _).1 (bd_sub kb_1 (by decide) : bd 0 1 _).2) (fun t ht hW => ⟨⟨_, _, rfl, Or.inr (⟨rfl, trivial⟩), q3_of g hK ht hW⟩, g.2.2.1.F ht⟩) g.2.2.1.2.2 dX2_atMark_43
    · have fc_5 := neq_f c_5
      refine lv_iload_n hx hb dX2_atMark_20 rfl (lv_at hl 0 rfl) ?_
      refine lv_bipush (v := 18) hx hb dX2_atMark_21 (by decide) ?_
      have kb_18 : bd 18 18 (18 : Int32) := ⟨by decide, by decide⟩
      refine lv_icmp_eq (tgt := 38) hx hb dX2_atMark_23 (by decide) (fun c_7 => ?_) (fun c_7 => ?_)
      · have fc_7 := eq_f c_7
        have b_8 : bd 18 18 r_2 := eqX fc_7 (bdT r_2) kb_18 (by decide)
        refine lv_iconst (v := 1) hx hb dX2_atMark_38 (by decide) ?_
        refine lv_goto (tgt := 43) hx hb dX2_atMark_39 (by decide) ?_
        subst hQ
        have kb_1 : bd 1 1 (1 : Int32) := ⟨by decide, by decide⟩
        exact W.zret (v := 1) hx hb hr (nar_z (bd_sub kb_1 (by decide) : bd 0 1 _).1 (bd_sub kb_1 (by decide) : bd 0 1 _).2) (fun t ht hW => ⟨⟨_, _, rfl, Or.inr (⟨rfl, trivial⟩), q3_of g hK ht hW⟩, g.2.2.1.F ht⟩) g.2.2.1.2.2 dX2_atMark_43
      · have fc_7 := neq_f c_7
        refine lv_iload_n hx hb dX2_atMark_26 rfl (lv_at hl 0 rfl) ?_
        refine lv_bipush (v := 20) hx hb dX2_atMark_27 (by decide) ?_
        have kb_20 : bd 20 20 (20 : Int32) := ⟨by decide, by decide⟩
        refine lv_icmp_eq (tgt := 38) hx hb dX2_atMark_29 (by decide) (fun c_9 => ?_) (fun c_9 => ?_)
        · have fc_9 := eq_f c_9
          have b_10 : bd 20 20 r_2 := eqX fc_9 (bdT r_2) kb_20 (by decide)
          refine lv_iconst (v := 1) hx hb dX2_atMark_38 (by decide) ?_
          refine lv_goto (tgt := 43) hx hb dX2_atMark_39 (by decide) ?_
          subst hQ
          have kb_1 : bd 1 1 (1 : Int32) := ⟨by decide, by decide⟩
          exact W.zret (v := 1) hx hb hr (nar_z (bd_sub kb_1 (by decide) : bd 0 1 _).1 (bd_sub kb_1 (by decide) : bd 0 1 _).2) (fun t ht hW => ⟨⟨_, _, rfl, Or.inr (⟨rfl, trivial⟩), q3_of g hK ht hW⟩, g.2.2.1.F ht⟩) g.2.2.1.2.2 dX2_atMark_43
        · have fc_9 := neq_f c_9
          refine lv_iload_n hx hb dX2_atMark_32 rfl (lv_at hl 0 rfl) ?_
          refine lv_bipush (v := 21) hx hb dX2_atMark_33 (by decide) ?_
          have kb_21 : bd 21 21 (21 : Int32) := ⟨by decide, by decide⟩
          refine lv_icmp_ne (tgt := 42) hx hb dX2_atMark_35 (by decide) (fun c_11 => ?_) (fun c_11 => ?_)
          · have fc_11 := neq_f c_11
            refine lv_iconst (v := 0) hx hb dX2_atMark_42 (by decide) ?_
            subst hQ
            have kb_0 : bd 0 0 (0 : Int32) := ⟨by decide, by decide⟩
            exact W.zret (v := 0) hx hb hr (nar_z (bd_sub kb_0 (by decide) : bd 0 1 _).1 (bd_sub kb_0 (by decide) : bd 0 1 _).2) (fun t ht hW => ⟨⟨_, _, rfl, Or.inl ⟨rfl, trivial⟩, q3_of g hK ht hW⟩, g.2.2.1.F ht⟩) g.2.2.1.2.2 dX2_atMark_43
          · have fc_11 := eq_f c_11
            have b_12 : bd 21 21 r_2 := eqX fc_11 (bdT r_2) kb_21 (by decide)
            refine lv_iconst (v := 1) hx hb dX2_atMark_38 (by decide) ?_
            refine lv_goto (tgt := 43) hx hb dX2_atMark_39 (by decide) ?_
            subst hQ
            have kb_1 : bd 1 1 (1 : Int32) := ⟨by decide, by decide⟩
            exact W.zret (v := 1) hx hb hr (nar_z (bd_sub kb_1 (by decide) : bd 0 1 _).1 (bd_sub kb_1 (by decide) : bd 0 1 _).2) (fun t ht hW => ⟨⟨_, _, rfl, Or.inr (⟨rfl, trivial⟩), q3_of g hK ht hW⟩, g.2.2.1.F ht⟩) g.2.2.1.2.2 dX2_atMark_43
set_option maxHeartbeats 4000000 in
set_option maxRecDepth 100000 in
theorem r_X7_addMark (l : Launch) (dC : Nat → ClassId) (dI : Nat → Nat → Nat) (L : List Nat) (kd : Nat → Nat) (tys : List (ClassId × FieldType)) (f0 : Nat → va_E) (sz : Nat) (hWT : WT L kd tys f0) (a0_ : Nat) (ma0_ : a0_ ∈ L) (ka0_ : kd a0_ = 7) (x1_ : Int32) (x2_ : Int32) (x3_ : Int32) : Met l yX7_addMark (.code yX7_addMark cX7_addMark 5 (some .int) :: lw_g) ({ frames := 1, cells := 0, slots := 0, locals := 13 }) (va_Pc [.ref a0_, .int x1_, .int x2_, .int x3_] (P3 (dC, dI) L tys f0 sz)) (va_Qi (fun (r : Int32) (f : Nat → va_E) => (bd 0 499 r ∧ ∃ z0_ : Int32, bd 1 500 z0_ ∧ Fs L kd f [(7, 13, a0_, .int z0_)])) (Q3 (dC, dI) L kd tys [(7, 13)] [140, 141, 142, 143, 144, 145] f0 sz) (pA L sz)) 0 0 (pA L sz) := by
  refine Met.ofW (cc := cX7_addMark) (maxL := 5) (ret := (some .int)) (by decide) rfl ?_
  intro p e s m args below meth c s₁ B hml hv
  obtain ⟨rfl, hsz, hP, hK, hD0⟩ := hv
  have hx := B.exec
  have hb := B.bytes
  have hr := B.returns
  have hts := atoms_spec (ws := (.code yX7_addMark cX7_addMark 5 (some .int) :: lw_g)) B.pre
  have hown : s.vm.findClass RX7 = some m.cls := findClass_of_methodNamed B.named
  have hlocks := B.notSynchronized
  subst hsz
  have g : G3 (dC, dI) L kd tys s f0 [(7, 13)] [140, 141, 142, 143, 144, 145] f0 s.heap [] [] := G3.start hP hD0 hWT Fs.nil
  have hl := lv_entry ([.ref a0_, .int x1_, .int x2_, .int x3_]) (n := 5) (Nat.le_of_ble_eq_true rfl)
  rw [lg_entry_eq]
  generalize (lg_sl ([.ref a0_, .int x1_, .int x2_, .int x3_]) ++ List.replicate (5 - (lg_sl ([.ref a0_, .int x1_, .int x2_, .int x3_])).length) Slot.unset).toArray = ls at hl ⊢
  have hl : lv_has ls 5 [(0, .ref a0_), (1, .int x1_), (2, .int x2_), (3, .int x3_)] := hl
  refine W_q (fun Q hQ => ?_)
  refine lv_aload_n hx hb dX7_addMark_0 rfl (lv_at hl 0 rfl) ?_
  refine g_geti (C := RX7) (T := TX7) (N := 19) hx hb hts (mc_ inX7) hown hK g ma0_ ka0_ (by decide) rfl 13 (by decide) rfl (hts _ (List.mem_cons_of_mem _ t_666)) (fun _ h9 => h9) rfl dX7_addMark_1 (fun x_1 bx_1 g => ?_)
  refine lv_sipush (v := 499) hx hb dX7_addMark_4 (by decide) ?_
  have kb_499 : bd 499 499 (499 : Int32) := ⟨by decide, by decide⟩
  refine va_mmin hx hb (hml.trans hl.1.symm) hown (hts _ (List.mem_cons_of_mem _ t_1177)) (hts _ (List.mem_cons_of_mem _ t_998)) (hts _ (List.mem_cons_of_mem _ t_204)) (hts _ (List.mem_cons_of_mem _ t_999)) (Nat.le_of_ble_eq_true rfl) (Nat.le_of_ble_eq_true rfl) (Nat.le_of_ble_eq_true rfl) (Nat.le_of_ble_eq_true rfl) dX7_addMark_7 ?_
  refine lv_topi (fun y_2 ey_2 => ?_)
  have ty_2 : y_2.toInt = min x_1.toInt (499 : Int32).toInt := by rw [ey_2]; exact mmin_ok _ _
  have b_3 : bd 0 499 y_2 := min_rg ty_2 bx_1 kb_499 (by decide)
  refine lv_istore (lv' := [(4, .int y_2), (0, .ref a0_), (1, .int x1_), (2, .int x2_), (3, .int x3_)]) hx hb dX7_addMark_10 hl (by decide) rfl (fun ls hl => ?_)
  refine lv_aload_n hx hb dX7_addMark_12 rfl (lv_at hl 1 rfl) ?_
  refine g_getr (K := 140) (C := RX7) (T := TX7) (N := 19) hx hb hts (mc_ inX7) hown hK g ma0_ ka0_ (by decide) rfl 7 (by decide) rfl (hts _ (List.mem_cons_of_mem _ t_648)) (fun _ h9 => h9) rfl dX7_addMark_13 (fun a_4 ma_4 ka_4 g => ?_)
  refine lv_iload hx hb dX7_addMark_16 (lv_at hl 0 rfl) ?_
  refine lv_iload_n hx hb dX7_addMark_18 rfl (lv_at hl 2 rfl) ?_
  refine g_iast hx hb hK g ma_4 ka_4 (by decide) rfl (in_bd b_3 (by decide)) (bdT x1_) (by decide) dX7_addMark_19 (fun f H locs g => ?_)
  refine lv_aload_n hx hb dX7_addMark_20 rfl (lv_at hl 1 rfl) ?_
  refine g_getr (K := 144) (C := RX7) (T := TX7) (N := 19) hx hb hts (mc_ inX7) hown hK g ma0_ ka0_ (by decide) rfl 11 (by decide) rfl (hts _ (List.mem_cons_of_mem _ t_661)) (fun _ h9 => h9) rfl dX7_addMark_21 (fun a_5 ma_5 ka_5 g => ?_)
  refine lv_iload hx hb dX7_addMark_24 (lv_at hl 0 rfl) ?_
  refine lv_iload_n hx hb dX7_addMark_26 rfl (lv_at hl 3 rfl) ?_
  refine g_iast hx hb hK g ma_5 ka_5 (by decide) rfl (in_bd b_3 (by decide)) (bdT x2_) (by decide) dX7_addMark_27 (fun f H locs g => ?_)
  refine lv_aload_n hx hb dX7_addMark_28 rfl (lv_at hl 1 rfl) ?_
  refine g_getr (K := 142) (C := RX7) (T := TX7) (N := 19) hx hb hts (mc_ inX7) hown hK g ma0_ ka0_ (by decide) rfl 9 (by decide) rfl (hts _ (List.mem_cons_of_mem _ t_654)) (fun _ h9 => h9) rfl dX7_addMark_29 (fun a_6 ma_6 ka_6 g => ?_)
  refine lv_iload hx hb dX7_addMark_32 (lv_at hl 0 rfl) ?_
  refine lv_iload_n hx hb dX7_addMark_34 rfl (lv_at hl 4 rfl) ?_
  refine g_iast hx hb hK g ma_6 ka_6 (by decide) rfl (in_bd b_3 (by decide)) (bdT x3_) (by decide) dX7_addMark_35 (fun f H locs g => ?_)
  refine lv_aload_n hx hb dX7_addMark_36 rfl (lv_at hl 1 rfl) ?_
  refine g_getr (K := 141) (C := RX7) (T := TX7) (N := 19) hx hb hts (mc_ inX7) hown hK g ma0_ ka0_ (by decide) rfl 8 (by decide) rfl (hts _ (List.mem_cons_of_mem _ t_651)) (fun _ h9 => h9) rfl dX7_addMark_37 (fun a_7 ma_7 ka_7 g => ?_)
  refine lv_iload hx hb dX7_addMark_40 (lv_at hl 0 rfl) ?_
  refine lv_aload_n hx hb dX7_addMark_42 rfl (lv_at hl 1 rfl) ?_
  refine g_geti (C := RX7) (T := TX7) (N := 19) hx hb hts (mc_ inX7) hown hK g ma0_ ka0_ (by decide) rfl 6 (by decide) rfl (hts _ (List.mem_cons_of_mem _ t_644)) (fun _ h9 => h9) rfl dX7_addMark_43 (fun x_8 bx_8 g => ?_)
  refine g_iast hx hb hK g ma_7 ka_7 (by decide) rfl (in_bd b_3 (by decide)) (bd_sub bx_8 (by decide)) (by decide) dX7_addMark_46 (fun f H locs g => ?_)
  refine lv_aload_n hx hb dX7_addMark_47 rfl (lv_at hl 1 rfl) ?_
  refine g_getr (K := 143) (C := RX7) (T := TX7) (N := 19) hx hb hts (mc_ inX7) hown hK g ma0_ ka0_ (by decide) rfl 10 (by decide) rfl (hts _ (List.mem_cons_of_mem _ t_658)) (fun _ h9 => h9) rfl dX7_addMark_48 (fun a_9 ma_9 ka_9 g => ?_)
  refine lv_iload hx hb dX7_addMark_51 (lv_at hl 0 rfl) ?_
  refine lv_iconst (v := 0) hx hb dX7_addMark_53 (by decide) ?_
  have kb_0 : bd 0 0 (0 : Int32) := ⟨by decide, by decide⟩
  refine g_iast hx hb hK g ma_9 ka_9 (by decide) rfl (in_bd b_3 (by decide)) (bd_sub kb_0 (by decide)) (by decide) dX7_addMark_54 (fun f H locs g => ?_)
  refine lv_aload_n hx hb dX7_addMark_55 rfl (lv_at hl 1 rfl) ?_
  refine g_getr (K := 145) (C := RX7) (T := TX7) (N := 19) hx hb hts (mc_ inX7) hown hK g ma0_ ka0_ (by decide) rfl 12 (by decide) rfl (hts _ (List.mem_cons_of_mem _ t_663)) (fun _ h9 => h9) rfl dX7_addMark_56 (fun a_10 ma_10 ka_10 g => ?_)
  refine lv_iload hx hb dX7_addMark_59 (lv_at hl 0 rfl) ?_
  refine lv_lconst (v := 0) hx hb dX7_addMark_61 (by decide) ?_
  refine g_last hx hb hK g ma_10 ka_10 (by decide) rfl (in_bd b_3 (by decide)) (by decide) dX7_addMark_62 (fun f H locs g => ?_)
  refine lv_aload_n hx hb dX7_addMark_63 rfl (lv_at hl 1 rfl) ?_
  refine lv_iload hx hb dX7_addMark_64 (lv_at hl 0 rfl) ?_
  refine lv_iconst (v := 1) hx hb dX7_addMark_66 (by decide) ?_
  have kb_1 : bd 1 1 (1 : Int32) := ⟨by decide, by decide⟩
  refine lv_iadd hx hb dX7_addMark_67 ?_
  refine lv_topi (fun y_11 ey_11 => ?_)
  have ty_11 := add_bd ey_11 b_3 kb_1 (by decide)
  have b_12 : bd 1 500 y_11 := add_rg ty_11 b_3 kb_1 (by decide)
  refine g_put (C := RX7) (T := TX7) (N := 19) hx hb hts (mc_ inX7) tyX7 tyX7_ok nmX7 hown hK g ma0_ ka0_ (by decide) rfl 13 (by decide) (hts _ (List.mem_cons_of_mem _ t_666)) (fun _ h9 => h9) rfl rfl (okV_i (bd_sub b_12 (by decide))) rfl rfl (by decide) (Or.inr (Or.inl (by decide))) (fx' := [(7, 12, a0_, .ref a_10), (7, 10, a0_, .ref a_9), (7, 6, a0_, .int x_8), (7, 8, a0_, .ref a_7), (7, 9, a0_, .ref a_6), (7, 11, a0_, .ref a_5), (7, 7, a0_, .ref a_4)]) rfl dX7_addMark_68 (fun f H locs g => ?_)
  refine lv_iload hx hb dX7_addMark_71 (lv_at hl 0 rfl) ?_
  subst hQ
  exact W.iret (v := y_2) hx hb hr (fun t ht hW => ⟨⟨_, _, rfl, ⟨b_3, y_11, b_12, (g.fcts [0] rfl)⟩, q3_of g hK ht hW⟩, g.2.2.1.F ht⟩) g.2.2.1.2.2 dX7_addMark_73
set_option maxHeartbeats 4000000 in
set_option maxRecDepth 100000 in
theorem r_X2_readThrownWord (l : Launch) (dC : Nat → ClassId) (dI : Nat → Nat → Nat) (L : List Nat) (kd : Nat → Nat) (tys : List (ClassId × FieldType)) (f0 : Nat → va_E) (sz : Nat) (hWT : WT L kd tys f0) (a0_ : Nat) (ma0_ : a0_ ∈ L) (ka0_ : kd a0_ = 2) (q0_ : Nat) (mq0_ : q0_ ∈ L) (kq0_ : kd q0_ = 8) (q1_ : Nat) (mq1_ : q1_ ∈ L) (kq1_ : kd q1_ = 7) (hfx : Fs L kd f0 [(2, 0, a0_, .ref q0_), (2, 3, a0_, .ref q1_)]) : Met l yX2_readThrownWord (.code yX2_readThrownWord cX2_readThrownWord 2 (some .boolean) :: lw_g) ({ frames := 2, cells := 0, slots := 0, locals := 44 }) (va_Pc [.ref a0_] (P3 (dC, dI) L tys f0 sz)) (va_Qi (fun (r : Int32) (f : Nat → va_E) => (r = 0 ∧ ∃ z0_ : Int32, bd 1 1201 z0_ ∧ ∃ z1_ : Int32, bd 1 500 z1_ ∧ Fs L kd f [(8, 6, q0_, .int z0_), (7, 13, q1_, .int z1_)]) ∨ (r = 1 ∧ ∃ z0_ : Int32, bd 1 1201 z0_ ∧ ∃ z1_ : Int32, bd 1 500 z1_ ∧ Fs L kd f [(8, 6, q0_, .int z0_), (7, 13, q1_, .int z1_)])) (Q3 (dC, dI) L kd tys [(7, 13), (8, 6), (8, 8), (8, 9)] [140, 141, 142, 143, 144, 145] f0 sz) (pA L sz)) 0 0 (pA L sz) := by
  refine Met.ofW (cc := cX2_readThrownWord) (maxL := 2) (ret := (some .boolean)) (by decide) rfl ?_
  intro p e s m args below meth c s₁ B hml hv
  obtain ⟨rfl, hsz, hP, hK, hD0⟩ := hv
  have hx := B.exec
  have hb := B.bytes
  have hr := B.returns
  have hts := atoms_spec (ws := (.code yX2_readThrownWord cX2_readThrownWord 2 (some .boolean) :: lw_g)) B.pre
  have hown : s.vm.findClass RX2 = some m.cls := findClass_of_methodNamed B.named
  have hlocks := B.notSynchronized
  subst hsz
  have g : G3 (dC, dI) L kd tys s f0 [(7, 13), (8, 6), (8, 8), (8, 9)] [140, 141, 142, 143, 144, 145] f0 s.heap [] [(2, 0, a0_, .ref q0_), (2, 3, a0_, .ref q1_)] := G3.start hP hD0 hWT hfx
  have hl := lv_entry ([.ref a0_]) (n := 2) (Nat.le_of_ble_eq_true rfl)
  rw [lg_entry_eq]
  generalize (lg_sl ([.ref a0_]) ++ List.replicate (2 - (lg_sl ([.ref a0_])).length) Slot.unset).toArray = ls at hl ⊢
  have hl : lv_has ls 2 [(0, .ref a0_)] := hl
  refine W_q (fun Q hQ => ?_)
  refine lv_aload_n hx hb dX2_readThrownWord_0 rfl (lv_at hl 0 rfl) ?_
  refine g_getk (C := RX2) (T := TX2) (N := 16) hx hb hts (mc_ inX2) hown hK g rfl 3 (by decide) rfl (hts _ (List.mem_cons_of_mem _ t_419)) (fun _ h9 => h9) 1 rfl dX2_readThrownWord_1 ?_
  refine lv_iconst (v := 4) hx hb dX2_readThrownWord_4 (by decide) ?_
  refine lv_aload_n hx hb dX2_readThrownWord_5 rfl (lv_at hl 0 rfl) ?_
  refine g_getr (K := 5) (C := RX2) (T := TX2) (N := 16) hx hb hts (mc_ inX2) hown hK g ma0_ ka0_ (by decide) rfl 1 (by decide) rfl (hts _ (List.mem_cons_of_mem _ t_417)) (fun _ h9 => h9) rfl dX2_readThrownWord_6 (fun a_1 ma_1 ka_1 g => ?_)
  refine g_geti (C := RX5) (T := TX5) (N := 9) hx hb hts (mc_ inX5) hown hK g ma_1 ka_1 (by decide) rfl 2 (by decide) rfl (hts _ (List.mem_cons_of_mem _ t_333)) (fun _ h9 => h9) rfl dX2_readThrownWord_9 (fun x_2 bx_2 g => ?_)
  refine lv_aload_n hx hb dX2_readThrownWord_12 rfl (lv_at hl 0 rfl) ?_
  refine g_getk (C := RX2) (T := TX2) (N := 16) hx hb hts (mc_ inX2) hown hK g rfl 0 (by decide) rfl (hts _ (List.mem_cons_of_mem _ t_416)) (fun _ h9 => h9) 2 rfl dX2_readThrownWord_13 ?_
  refine g_calli (va_runV (As := []) (rest := [.int x_2, .int 4, .ref q1_]) ⟨hx, hb, hml, hown, hts⟩ (r_X8_place l dC dI L kd tys f0 s.heap.size g.2.2.2.1 q0_ mq0_ kq0_) (cwV 0 hts (gV_ t_1110 t_1111 t_1112 t_184 t_1113) rfl rfl rfl (by decide +kernel) ⟨(Nat.le_of_ble_eq_true rfl), (Nat.le_of_ble_eq_true rfl)⟩) (pre3V g hK mq0_ kq0_ (by decide) (q := (RX8, TX8, 10)) rfl) rfl rfl hl.1 rfl (lv_room (Nat.le_of_ble_eq_true rfl)) dX2_readThrownWord_16 ⟨(Nat.le_of_ble_eq_true rfl), (Nat.le_of_ble_eq_true rfl)⟩) g hK (by decide) (by decide) (fx' := [(5, 2, a_1, .int x_2), (2, 1, a0_, .ref a_1), (2, 0, a0_, .ref q0_), (2, 3, a0_, .ref q1_)]) rfl (fun r_3 fr_3 H locs hp hMr_3 g => ?_)
  refine g_calli (va_runV (As := [.int 4, .int x_2, .int r_3]) (rest := []) ⟨hx, hb, hml, hown, hts⟩ (r_X7_addMark l dC dI L kd tys fr_3 H.size g.2.2.2.1 q1_ mq1_ kq1_ 4 x_2 r_3) (cwV 3 hts (gV_ t_1173 t_1174 t_1175 t_191 t_1176) rfl rfl rfl (by decide +kernel) ⟨(Nat.le_of_ble_eq_true rfl), (Nat.le_of_ble_eq_true rfl)⟩) (pre3V g hK mq1_ kq1_ (by decide) (q := (RX7, TX7, 19)) rfl) rfl rfl hl.1 rfl (lv_room (Nat.le_of_ble_eq_true rfl)) dX2_readThrownWord_19 ⟨(Nat.le_of_ble_eq_true rfl), (Nat.le_of_ble_eq_true rfl)⟩) g hK (by decide) (by decide) (fx' := [(5, 2, a_1, .int x_2), (2, 1, a0_, .ref a_1), (2, 0, a0_, .ref q0_), (2, 3, a0_, .ref q1_)]) rfl (fun r_4 fr_4 H locs hp hMr_4 g => ?_)
  obtain ⟨h_5, x_6, h_7, hF_8⟩ := hp
  have g := g.more hF_8
  refine lv_istore_n (lv' := [(1, .int r_4), (0, .ref a0_)]) hx hb dX2_readThrownWord_22 rfl hl (by decide) rfl (fun ls hl => ?_)
  refine lv_aload_n hx hb dX2_readThrownWord_23 rfl (lv_at hl 1 rfl) ?_
  refine g_getk (C := RX2) (T := TX2) (N := 16) hx hb hts (mc_ inX2) hown hK g rfl 3 (by decide) rfl (hts _ (List.mem_cons_of_mem _ t_419)) (fun _ h9 => h9) 4 rfl dX2_readThrownWord_24 ?_
  refine g_getr (K := 145) (C := RX7) (T := TX7) (N := 19) hx hb hts (mc_ inX7) hown hK g mq1_ kq1_ (by decide) rfl 12 (by decide) rfl (hts _ (List.mem_cons_of_mem _ t_664)) (fun _ h9 => h9) rfl dX2_readThrownWord_27 (fun a_9 ma_9 ka_9 g => ?_)
  refine lv_iload_n hx hb dX2_readThrownWord_30 rfl (lv_at hl 0 rfl) ?_
  refine lv_aload_n hx hb dX2_readThrownWord_31 rfl (lv_at hl 1 rfl) ?_
  refine g_getk (C := RX2) (T := TX2) (N := 16) hx hb hts (mc_ inX2) hown hK g rfl 0 (by decide) rfl (hts _ (List.mem_cons_of_mem _ t_416)) (fun _ h9 => h9) 4 rfl dX2_readThrownWord_32 ?_
  refine g_calll (va_runV (As := []) (rest := [.int r_4, .ref a_9]) ⟨hx, hb, hml, hown, hts⟩ (r_X8_value l dC dI L kd tys fr_4 H.size g.2.2.2.1 q0_ mq0_ kq0_) (cwV 0 hts (gV_ t_1114 t_1115 t_1116 t_184 t_1117) rfl rfl rfl (by decide +kernel) ⟨(Nat.le_of_ble_eq_true rfl), (Nat.le_of_ble_eq_true rfl)⟩) (pre3V g hK mq0_ kq0_ (by decide) (q := (RX8, TX8, 10)) rfl) rfl rfl hl.1 rfl (lv_room (Nat.le_of_ble_eq_true rfl)) dX2_readThrownWord_35 ⟨(Nat.le_of_ble_eq_true rfl), (Nat.le_of_ble_eq_true rfl)⟩) g hK (by decide) (by decide) (fx' := [(7, 12, q1_, .ref a_9), (7, 13, q1_, .int x_6), (5, 2, a_1, .int x_2), (2, 1, a0_, .ref a_1), (2, 0, a0_, .ref q0_), (2, 3, a0_, .ref q1_)]) rfl (fun r_10 fr_10 H locs hp hMr_10 g => ?_)
  refine g_last hx hb hK g ma_9 ka_9 (by decide) rfl (in_bd h_5 (by decide)) (by decide) dX2_readThrownWord_38 (fun f H locs g => ?_)
  refine lv_aload_n hx hb dX2_readThrownWord_39 rfl (lv_at hl 1 rfl) ?_
  refine g_getk (C := RX2) (T := TX2) (N := 16) hx hb hts (mc_ inX2) hown hK g rfl 0 (by decide) rfl (hts _ (List.mem_cons_of_mem _ t_416)) (fun _ h9 => h9) 4 rfl dX2_readThrownWord_40 ?_
  refine lv_iconst (v := 3) hx hb dX2_readThrownWord_43 (by decide) ?_
  refine g_callv (va_runV (As := [.int 3]) (rest := []) ⟨hx, hb, hml, hown, hts⟩ (r_X8_take l dC dI L kd tys f H.size g.2.2.2.1 q0_ mq0_ kq0_ 3) (cwV 1 hts (gV_ t_1098 t_1099 t_1100 t_184 t_1101) rfl rfl rfl (by decide +kernel) ⟨(Nat.le_of_ble_eq_true rfl), (Nat.le_of_ble_eq_true rfl)⟩) (pre3V g hK mq0_ kq0_ (by decide) (q := (RX8, TX8, 10)) rfl) rfl rfl hl.1 rfl (lv_room (Nat.le_of_ble_eq_true rfl)) dX2_readThrownWord_44 ⟨(Nat.le_of_ble_eq_true rfl), (Nat.le_of_ble_eq_true rfl)⟩) g hK (by decide) (by decide) (fx' := [(7, 12, q1_, .ref a_9), (7, 13, q1_, .int x_6), (5, 2, a_1, .int x_2), (2, 1, a0_, .ref a_1), (2, 0, a0_, .ref q0_), (2, 3, a0_, .ref q1_)]) rfl (fun fr_11 H locs hp hMr_11 g => ?_)
  obtain ⟨x_12, h_13, hF_14⟩ := hp
  have g := g.more hF_14
  refine lv_aload_n hx hb dX2_readThrownWord_47 rfl (lv_at hl 1 rfl) ?_
  refine g_getk (C := RX2) (T := TX2) (N := 16) hx hb hts (mc_ inX2) hown hK g rfl 0 (by decide) rfl (hts _ (List.mem_cons_of_mem _ t_416)) (fun _ h9 => h9) 5 rfl dX2_readThrownWord_48 ?_
  refine g_calli (va_runV (As := []) (rest := []) ⟨hx, hb, hml, hown, hts⟩ (r_X8_kind l dC dI L kd tys fr_11 H.size g.2.2.2.1 q0_ mq0_ kq0_) (cwV 0 hts (gV_ t_1118 t_1119 t_1120 t_184 t_1121) rfl rfl rfl (by decide +kernel) ⟨(Nat.le_of_ble_eq_true rfl), (Nat.le_of_ble_eq_true rfl)⟩) (pre3V g hK mq0_ kq0_ (by decide) (q := (RX8, TX8, 10)) rfl) rfl rfl hl.1 rfl (lv_room (Nat.le_of_ble_eq_true rfl)) dX2_readThrownWord_51 ⟨(Nat.le_of_ble_eq_true rfl), (Nat.le_of_ble_eq_true rfl)⟩) g hK (by decide) (by decide) (fx' := [(8, 6, q0_, .int x_12), (7, 12, q1_, .ref a_9), (7, 13, q1_, .int x_6), (5, 2, a_1, .int x_2), (2, 1, a0_, .ref a_1), (2, 0, a0_, .ref q0_), (2, 3, a0_, .ref q1_)]) rfl (fun r_15 fr_15 H locs hp hMr_15 g => ?_)
  refine lv_bipush (v := 19) hx hb dX2_readThrownWord_54 (by decide) ?_
  have kb_19 : bd 19 19 (19 : Int32) := ⟨by decide, by decide⟩
  refine lv_icmp_eq (tgt := 71) hx hb dX2_readThrownWord_56 (by decide) (fun c_16 => ?_) (fun c_16 => ?_)
  · have fc_16 := eq_f c_16
    have b_17 : bd 19 19 r_15 := eqX fc_16 (bdT r_15) kb_19 (by decide)
    refine lv_aload_n hx hb dX2_readThrownWord_71 rfl (lv_at hl 1 rfl) ?_
    refine g_getk (C := RX2) (T := TX2) (N := 16) hx hb hts (mc_ inX2) hown hK g rfl 0 (by decide) rfl (hts _ (List.mem_cons_of_mem _ t_416)) (fun _ h9 => h9) 5 rfl dX2_readThrownWord_72 ?_
    refine g_callv (va_runV (As := []) (rest := []) ⟨hx, hb, hml, hown, hts⟩ (r_X8_next l dC dI L kd tys fr_15 H.size g.2.2.2.1 q0_ mq0_ kq0_) (cwV 0 hts (gV_ t_1131 t_1103 t_1104 t_184 t_1105) rfl rfl rfl (by decide +kernel) ⟨(Nat.le_of_ble_eq_true rfl), (Nat.le_of_ble_eq_true rfl)⟩) (pre3V g hK mq0_ kq0_ (by decide) (q := (RX8, TX8, 10)) rfl) rfl rfl hl.1 rfl (lv_room (Nat.le_of_ble_eq_true rfl)) dX2_readThrownWord_75 ⟨(Nat.le_of_ble_eq_true rfl), (Nat.le_of_ble_eq_true rfl)⟩) g hK (by decide) (by decide) (fx' := [(7, 12, q1_, .ref a_9), (7, 13, q1_, .int x_6), (5, 2, a_1, .int x_2), (2, 1, a0_, .ref a_1), (2, 0, a0_, .ref q0_), (2, 3, a0_, .ref q1_)]) rfl (fun fr_18 H locs hp hMr_18 g => ?_)
    obtain ⟨x_19, h_20, hF_21⟩ := hp
    have g := g.more hF_21
    refine lv_aload_n hx hb dX2_readThrownWord_78 rfl (lv_at hl 1 rfl) ?_
    refine g_getk (C := RX2) (T := TX2) (N := 16) hx hb hts (mc_ inX2) hown hK g rfl 3 (by decide) rfl (hts _ (List.mem_cons_of_mem _ t_419)) (fun _ h9 => h9) 6 rfl dX2_readThrownWord_79 ?_
    refine g_getr (K := 142) (C := RX7) (T := TX7) (N := 19) hx hb hts (mc_ inX7) hown hK g mq1_ kq1_ (by decide) rfl 9 (by decide) rfl (hts _ (List.mem_cons_of_mem _ t_657)) (fun _ h9 => h9) rfl dX2_readThrownWord_82 (fun a_22 ma_22 ka_22 g => ?_)
    refine lv_iload_n hx hb dX2_readThrownWord_85 rfl (lv_at hl 0 rfl) ?_
    refine lv_aload_n hx hb dX2_readThrownWord_86 rfl (lv_at hl 1 rfl) ?_
    refine g_getk (C := RX2) (T := TX2) (N := 16) hx hb hts (mc_ inX2) hown hK g rfl 0 (by decide) rfl (hts _ (List.mem_cons_of_mem _ t_416)) (fun _ h9 => h9) 6 rfl dX2_readThrownWord_87 ?_
    refine g_calli (va_runV (As := []) (rest := [.int r_4, .ref a_22]) ⟨hx, hb, hml, hown, hts⟩ (r_X8_place l dC dI L kd tys fr_18 H.size g.2.2.2.1 q0_ mq0_ kq0_) (cwV 0 hts (gV_ t_1110 t_1111 t_1112 t_184 t_1113) rfl rfl rfl (by decide +kernel) ⟨(Nat.le_of_ble_eq_true rfl), (Nat.le_of_ble_eq_true rfl)⟩) (pre3V g hK mq0_ kq0_ (by decide) (q := (RX8, TX8, 10)) rfl) rfl rfl hl.1 rfl (lv_room (Nat.le_of_ble_eq_true rfl)) dX2_readThrownWord_90 ⟨(Nat.le_of_ble_eq_true rfl), (Nat.le_of_ble_eq_true rfl)⟩) g hK (by decide) (by decide) (fx' := [(7, 9, q1_, .ref a_22), (8, 6, q0_, .int x_19), (7, 12, q1_, .ref a_9), (7, 13, q1_, .int x_6), (5, 2, a_1, .int x_2), (2, 1, a0_, .ref a_1), (2, 0, a0_, .ref q0_), (2, 3, a0_, .ref q1_)]) rfl (fun r_23 fr_23 H locs hp hMr_23 g => ?_)
    refine g_iast hx hb hK g ma_22 ka_22 (by decide) rfl (in_bd h_5 (by decide)) (bdT r_23) (by decide) dX2_readThrownWord_93 (fun f H locs g => ?_)
    refine lv_iconst (v := 1) hx hb dX2_readThrownWord_94 (by decide) ?_
    subst hQ
    have kb_1 : bd 1 1 (1 : Int32) := ⟨by decide, by decide⟩
    exact W.zret (v := 1) hx hb hr (nar_z (bd_sub kb_1 (by decide) : bd 0 1 _).1 (bd_sub kb_1 (by decide) : bd 0 1 _).2) (fun t ht hW => ⟨⟨_, _, rfl, Or.inr (⟨rfl, x_19, h_20, x_6, h_7, (g.fcts [1, 3] rfl)⟩), q3_of g hK ht hW⟩, g.2.2.1.F ht⟩) g.2.2.1.2.2 dX2_readThrownWord_95
  · have fc_16 := neq_f c_16
    refine lv_aload_n hx hb dX2_readThrownWord_59 rfl (lv_at hl 1 rfl) ?_
    refine g_getk (C := RX2) (T := TX2) (N := 16) hx hb hts (mc_ inX2) hown hK g rfl 3 (by decide) rfl (hts _ (List.mem_cons_of_mem _ t_419)) (fun _ h9 => h9) 6 rfl dX2_readThrownWord_60 ?_
    refine g_getr (K := 141) (C := RX7) (T := TX7) (N := 19) hx hb hts (mc_ inX7) hown hK g mq1_ kq1_ (by decide) rfl 8 (by decide) rfl (hts _ (List.mem_cons_of_mem _ t_653)) (fun _ h9 => h9) rfl dX2_readThrownWord_63 (fun a_24 ma_24 ka_24 g => ?_)
    refine lv_iload_n hx hb dX2_readThrownWord_66 rfl (lv_at hl 0 rfl) ?_
    refine lv_iconst (v := (-1)) hx hb dX2_readThrownWord_67 (by decide) ?_
    have kb_m1 : bd (-1) (-1) ((-1) : Int32) := ⟨by decide, by decide⟩
    refine g_iast hx hb hK g ma_24 ka_24 (by decide) rfl (in_bd h_5 (by decide)) (bd_sub kb_m1 (by decide)) (by decide) dX2_readThrownWord_68 (fun f H locs g => ?_)
    refine lv_iconst (v := 0) hx hb dX2_readThrownWord_69 (by decide) ?_
    subst hQ
    have kb_0 : bd 0 0 (0 : Int32) := ⟨by decide, by decide⟩
    exact W.zret (v := 0) hx hb hr (nar_z (bd_sub kb_0 (by decide) : bd 0 1 _).1 (bd_sub kb_0 (by decide) : bd 0 1 _).2) (fun t ht hW => ⟨⟨_, _, rfl, Or.inl ⟨rfl, x_12, h_13, x_6, h_7, (g.fcts [1, 3] rfl)⟩, q3_of g hK ht hW⟩, g.2.2.1.F ht⟩) g.2.2.1.2.2 dX2_readThrownWord_70
set_option maxHeartbeats 4000000 in
set_option maxRecDepth 100000 in
theorem r_X2_readOnly (l : Launch) (dC : Nat → ClassId) (dI : Nat → Nat → Nat) (L : List Nat) (kd : Nat → Nat) (tys : List (ClassId × FieldType)) (f0 : Nat → va_E) (sz : Nat) (hWT : WT L kd tys f0) (a0_ : Nat) (ma0_ : a0_ ∈ L) (ka0_ : kd a0_ = 2) (q0_ : Nat) (mq0_ : q0_ ∈ L) (kq0_ : kd q0_ = 7) (q1_ : Nat) (mq1_ : q1_ ∈ L) (kq1_ : kd q1_ = 9) (hfx : Fs L kd f0 [(2, 3, a0_, .ref q0_), (2, 4, a0_, .ref q1_)]) : Met l yX2_readOnly (.code yX2_readOnly cX2_readOnly 5 none :: lw_g) ({ frames := 2, cells := 0, slots := 0, locals := 37 }) (va_Pc [.ref a0_] (P3 (dC, dI) L tys f0 sz)) (va_Qv (fun (f : Nat → va_E) => (∃ z0_ : Int32, bd 1 500 z0_ ∧ Fs L kd f [(7, 13, q0_, .int z0_)])) (Q3 (dC, dI) L kd tys [(7, 13), (8, 6), (8, 8), (8, 9)] [140, 141, 142, 143, 144, 145] f0 sz) (pA L sz)) 0 0 (pA L sz) := by
  refine Met.ofW (cc := cX2_readOnly) (maxL := 5) (ret := none) (by decide) rfl ?_
  intro p e s m args below meth c s₁ B hml hv
  obtain ⟨rfl, hsz, hP, hK, hD0⟩ := hv
  have hx := B.exec
  have hb := B.bytes
  have hr := B.returns
  have hts := atoms_spec (ws := (.code yX2_readOnly cX2_readOnly 5 none :: lw_g)) B.pre
  have hown : s.vm.findClass RX2 = some m.cls := findClass_of_methodNamed B.named
  have hlocks := B.notSynchronized
  subst hsz
  have g : G3 (dC, dI) L kd tys s f0 [(7, 13), (8, 6), (8, 8), (8, 9)] [140, 141, 142, 143, 144, 145] f0 s.heap [] [(2, 3, a0_, .ref q0_), (2, 4, a0_, .ref q1_)] := G3.start hP hD0 hWT hfx
  have hl := lv_entry ([.ref a0_]) (n := 5) (Nat.le_of_ble_eq_true rfl)
  rw [lg_entry_eq]
  generalize (lg_sl ([.ref a0_]) ++ List.replicate (5 - (lg_sl ([.ref a0_])).length) Slot.unset).toArray = ls at hl ⊢
  have hl : lv_has ls 5 [(0, .ref a0_)] := hl
  refine W_q (fun Q hQ => ?_)
  refine lv_aload_n hx hb dX2_readOnly_0 rfl (lv_at hl 0 rfl) ?_
  refine g_getk (C := RX2) (T := TX2) (N := 16) hx hb hts (mc_ inX2) hown hK g rfl 3 (by decide) rfl (hts _ (List.mem_cons_of_mem _ t_419)) (fun _ h9 => h9) 0 rfl dX2_readOnly_1 ?_
  refine lv_iconst (v := 5) hx hb dX2_readOnly_4 (by decide) ?_
  refine lv_aload_n hx hb dX2_readOnly_5 rfl (lv_at hl 0 rfl) ?_
  refine g_getr (K := 5) (C := RX2) (T := TX2) (N := 16) hx hb hts (mc_ inX2) hown hK g ma0_ ka0_ (by decide) rfl 1 (by decide) rfl (hts _ (List.mem_cons_of_mem _ t_417)) (fun _ h9 => h9) rfl dX2_readOnly_6 (fun a_1 ma_1 ka_1 g => ?_)
  refine g_geti (C := RX5) (T := TX5) (N := 9) hx hb hts (mc_ inX5) hown hK g ma_1 ka_1 (by decide) rfl 2 (by decide) rfl (hts _ (List.mem_cons_of_mem _ t_333)) (fun _ h9 => h9) rfl dX2_readOnly_9 (fun x_2 bx_2 g => ?_)
  refine lv_aload_n hx hb dX2_readOnly_12 rfl (lv_at hl 0 rfl) ?_
  refine g_getr (K := 8) (C := RX2) (T := TX2) (N := 16) hx hb hts (mc_ inX2) hown hK g ma0_ ka0_ (by decide) rfl 0 (by decide) rfl (hts _ (List.mem_cons_of_mem _ t_416)) (fun _ h9 => h9) rfl dX2_readOnly_13 (fun a_3 ma_3 ka_3 g => ?_)
  refine g_calli (va_runV (As := []) (rest := [.int x_2, .int 5, .ref q0_]) ⟨hx, hb, hml, hown, hts⟩ (r_X8_place l dC dI L kd tys f0 s.heap.size g.2.2.2.1 a_3 ma_3 ka_3) (cwV 0 hts (gV_ t_1110 t_1111 t_1112 t_184 t_1113) rfl rfl rfl (by decide +kernel) ⟨(Nat.le_of_ble_eq_true rfl), (Nat.le_of_ble_eq_true rfl)⟩) (pre3V g hK ma_3 ka_3 (by decide) (q := (RX8, TX8, 10)) rfl) rfl rfl hl.1 rfl (lv_room (Nat.le_of_ble_eq_true rfl)) dX2_readOnly_16 ⟨(Nat.le_of_ble_eq_true rfl), (Nat.le_of_ble_eq_true rfl)⟩) g hK (by decide) (by decide) (fx' := [(2, 0, a0_, .ref a_3), (5, 2, a_1, .int x_2), (2, 1, a0_, .ref a_1), (2, 3, a0_, .ref q0_), (2, 4, a0_, .ref q1_)]) rfl (fun r_4 fr_4 H locs hp hMr_4 g => ?_)
  refine g_calli (va_runV (As := [.int 5, .int x_2, .int r_4]) (rest := []) ⟨hx, hb, hml, hown, hts⟩ (r_X7_addMark l dC dI L kd tys fr_4 H.size g.2.2.2.1 q0_ mq0_ kq0_ 5 x_2 r_4) (cwV 3 hts (gV_ t_1173 t_1174 t_1175 t_191 t_1176) rfl rfl rfl (by decide +kernel) ⟨(Nat.le_of_ble_eq_true rfl), (Nat.le_of_ble_eq_true rfl)⟩) (pre3V g hK mq0_ kq0_ (by decide) (q := (RX7, TX7, 19)) rfl) rfl rfl hl.1 rfl (lv_room (Nat.le_of_ble_eq_true rfl)) dX2_readOnly_19 ⟨(Nat.le_of_ble_eq_true rfl), (Nat.le_of_ble_eq_true rfl)⟩) g hK (by decide) (by decide) (fx' := [(2, 0, a0_, .ref a_3), (5, 2, a_1, .int x_2), (2, 1, a0_, .ref a_1), (2, 3, a0_, .ref q0_), (2, 4, a0_, .ref q1_)]) rfl (fun r_5 fr_5 H locs hp hMr_5 g => ?_)
  obtain ⟨h_6, x_7, h_8, hF_9⟩ := hp
  have g := g.more hF_9
  refine lv_istore_n (lv' := [(1, .int r_5), (0, .ref a0_)]) hx hb dX2_readOnly_22 rfl hl (by decide) rfl (fun ls hl => ?_)
  refine lv_iconst (v := 1) hx hb dX2_readOnly_23 (by decide) ?_
  refine lv_istore_n (lv' := [(2, .int 1), (1, .int r_5), (0, .ref a0_)]) hx hb dX2_readOnly_24 rfl hl (by decide) rfl (fun ls hl => ?_)
  refine lv_iconst (v := 0) hx hb dX2_readOnly_25 (by decide) ?_
  refine lv_istore_n (lv' := [(3, .int 0), (2, .int 1), (1, .int r_5), (0, .ref a0_)]) hx hb dX2_readOnly_26 rfl hl (by decide) rfl (fun ls hl => ?_)
  have loop_10 : ∀ (n : Nat) (v27_3 : Int32) (v27_2 : Int32), bd 0 1201 v27_3 → bd 0 1 v27_2 → (1201 - v27_3.toInt < (n : Int)) → ∀ (f : Nat → va_E) (H : Heap) (locs : List Loc) (ls : Array Slot), G3 (dC, dI) L kd tys s f0 [(7, 13), (8, 6), (8, 8), (8, 9)] [140, 141, 142, 143, 144, 145] f H locs [(7, 13, q0_, .int x_7), (2, 0, a0_, .ref a_3), (5, 2, a_1, .int x_2), (2, 1, a0_, .ref a_1), (2, 3, a0_, .ref q0_), (2, 4, a0_, .ref q1_)] → lv_has ls 5 [(3, .int v27_3), (2, .int v27_2), (1, .int r_5), (0, .ref a0_)] → W p l e ({ frames := 2, cells := 0, slots := 0, locals := 37 } : Room) s m [.ref a0_].toArray below meth c H locs 0 0 Q (F0 m 27 ls []) := by
    intro n
    induction n with
    | zero =>
      intro v27_3 v27_2 bv27_3 bv27_2 hm f H locs ls g hl
      exact absurd hm (by have h9_v27_3 := bv27_3; unfold bd at h9_v27_3; have h9_v27_2 := bv27_2; unfold bd at h9_v27_2; omega)
    | succ n ih =>
      intro v27_3 v27_2 bv27_3 bv27_2 hm f H locs ls g hl
      refine lv_iload_n hx hb dX2_readOnly_27 rfl (lv_at hl 0 rfl) ?_
      refine lv_sipush (v := 1200) hx hb dX2_readOnly_28 (by decide) ?_
      have kb_1200 : bd 1200 1200 (1200 : Int32) := ⟨by decide, by decide⟩
      refine lv_icmp_gt (tgt := 165) hx hb dX2_readOnly_31 (by decide) (fun c_11 => ?_) (fun c_11 => ?_)
      · have fc_11 := lt_f c_11
        have b_12 : bd 1201 1201 v27_3 := ltR fc_11 kb_1200 bv27_3 (by decide)
        subst hQ
        exact W.vret hx hb hr (fun t ht hW => ⟨⟨_, rfl, ⟨x_7, h_8, (g.fcts [0] rfl)⟩, q3_of g hK ht hW⟩, g.2.2.1.F ht⟩) g.2.2.1.2.2 dX2_readOnly_165
      · have fc_11 := nlt_f c_11
        have b_13 : bd 0 1200 v27_3 := leL fc_11 bv27_3 kb_1200 (by decide)
        refine lv_iload_n hx hb dX2_readOnly_34 rfl (lv_at hl 1 rfl) ?_
        have kb_0 : bd 0 0 (0 : Int32) := ⟨by decide, by decide⟩
        refine lv_if_eq (tgt := 165) hx hb dX2_readOnly_35 (by decide) (fun c_14 => ?_) (fun c_14 => ?_)
        · have fc_14 := eq_f c_14
          have b_15 : bd 0 0 v27_2 := eqX fc_14 bv27_2 kb_0 (by decide)
          subst hQ
          exact W.vret hx hb hr (fun t ht hW => ⟨⟨_, rfl, ⟨x_7, h_8, (g.fcts [0] rfl)⟩, q3_of g hK ht hW⟩, g.2.2.1.F ht⟩) g.2.2.1.2.2 dX2_readOnly_165
        · have fc_14 := neq_f c_14
          have b_16 : bd 1 1 v27_2 := neX fc_14 bv27_2 kb_0 (by decide)
          refine lv_aload_n hx hb dX2_readOnly_38 rfl (lv_at hl 3 rfl) ?_
          refine g_getk (C := RX2) (T := TX2) (N := 16) hx hb hts (mc_ inX2) hown hK g rfl 4 (by decide) rfl (hts _ (List.mem_cons_of_mem _ t_420)) (fun _ h9 => h9) 5 rfl dX2_readOnly_39 ?_
          refine lv_aload_n hx hb dX2_readOnly_42 rfl (lv_at hl 3 rfl) ?_
          refine g_getk (C := RX2) (T := TX2) (N := 16) hx hb hts (mc_ inX2) hown hK g rfl 0 (by decide) rfl (hts _ (List.mem_cons_of_mem _ t_416)) (fun _ h9 => h9) 1 rfl dX2_readOnly_43 ?_
          refine g_calll (va_runV (As := []) (rest := [.ref q1_]) ⟨hx, hb, hml, hown, hts⟩ (r_X8_value l dC dI L kd tys f H.size g.2.2.2.1 a_3 ma_3 ka_3) (cwV 0 hts (gV_ t_1114 t_1115 t_1116 t_184 t_1117) rfl rfl rfl (by decide +kernel) ⟨(Nat.le_of_ble_eq_true rfl), (Nat.le_of_ble_eq_true rfl)⟩) (pre3V g hK ma_3 ka_3 (by decide) (q := (RX8, TX8, 10)) rfl) rfl rfl hl.1 rfl (lv_room (Nat.le_of_ble_eq_true rfl)) dX2_readOnly_46 ⟨(Nat.le_of_ble_eq_true rfl), (Nat.le_of_ble_eq_true rfl)⟩) g hK (by decide) (by decide) (fx' := [(7, 13, q0_, .int x_7), (2, 0, a0_, .ref a_3), (5, 2, a_1, .int x_2), (2, 1, a0_, .ref a_1), (2, 3, a0_, .ref q0_), (2, 4, a0_, .ref q1_)]) rfl (fun r_17 fr_17 H locs hp hMr_17 g => ?_)
          refine g_calli (va_runV (As := [.long r_17]) (rest := []) ⟨hx, hb, hml, hown, hts⟩ (r_X9_fieldNamed l dC dI L kd tys fr_17 H.size g.2.2.2.1 q1_ mq1_ kq1_ r_17) (cwV 1 hts (gV_ t_1147 t_1148 t_1149 t_192 t_1150) rfl rfl rfl (by decide +kernel) ⟨(Nat.le_of_ble_eq_true rfl), (Nat.le_of_ble_eq_true rfl)⟩) (pre3V g hK mq1_ kq1_ (by decide) (q := (RX9, TX9, 13)) rfl) rfl rfl hl.1 rfl (lv_room (Nat.le_of_ble_eq_true rfl)) dX2_readOnly_49 ⟨(Nat.le_of_ble_eq_true rfl), (Nat.le_of_ble_eq_true rfl)⟩) g hK (by decide) (by decide) (fx' := [(7, 13, q0_, .int x_7), (2, 0, a0_, .ref a_3), (5, 2, a_1, .int x_2), (2, 1, a0_, .ref a_1), (2, 3, a0_, .ref q0_), (2, 4, a0_, .ref q1_)]) rfl (fun r_18 fr_18 H locs hp hMr_18 g => ?_)
          obtain ⟨h_19, -⟩ := hp
          refine lv_istore (lv' := [(4, .int r_18), (3, .int v27_3), (2, .int v27_2), (1, .int r_5), (0, .ref a0_)]) hx hb dX2_readOnly_52 hl (by decide) rfl (fun ls hl => ?_)
          refine lv_aload_n hx hb dX2_readOnly_54 rfl (lv_at hl 4 rfl) ?_
          refine g_getk (C := RX2) (T := TX2) (N := 16) hx hb hts (mc_ inX2) hown hK g rfl 0 (by decide) rfl (hts _ (List.mem_cons_of_mem _ t_416)) (fun _ h9 => h9) 1 rfl dX2_readOnly_55 ?_
          refine g_calli (va_runV (As := []) (rest := []) ⟨hx, hb, hml, hown, hts⟩ (r_X8_kind l dC dI L kd tys fr_18 H.size g.2.2.2.1 a_3 ma_3 ka_3) (cwV 0 hts (gV_ t_1118 t_1119 t_1120 t_184 t_1121) rfl rfl rfl (by decide +kernel) ⟨(Nat.le_of_ble_eq_true rfl), (Nat.le_of_ble_eq_true rfl)⟩) (pre3V g hK ma_3 ka_3 (by decide) (q := (RX8, TX8, 10)) rfl) rfl rfl hl.1 rfl (lv_room (Nat.le_of_ble_eq_true rfl)) dX2_readOnly_58 ⟨(Nat.le_of_ble_eq_true rfl), (Nat.le_of_ble_eq_true rfl)⟩) g hK (by decide) (by decide) (fx' := [(7, 13, q0_, .int x_7), (2, 0, a0_, .ref a_3), (5, 2, a_1, .int x_2), (2, 1, a0_, .ref a_1), (2, 3, a0_, .ref q0_), (2, 4, a0_, .ref q1_)]) rfl (fun r_20 fr_20 H locs hp hMr_20 g => ?_)
          refine lv_iconst (v := 3) hx hb dX2_readOnly_61 (by decide) ?_
          have kb_3 : bd 3 3 (3 : Int32) := ⟨by decide, by decide⟩
          refine lv_icmp_eq (tgt := 83) hx hb dX2_readOnly_62 (by decide) (fun c_21 => ?_) (fun c_21 => ?_)
          · have fc_21 := eq_f c_21
            have b_22 : bd 3 3 r_20 := eqX fc_21 (bdT r_20) kb_3 (by decide)
            refine lv_iload hx hb dX2_readOnly_83 (lv_at hl 0 rfl) ?_
            refine lv_iconst (v := (-1)) hx hb dX2_readOnly_85 (by decide) ?_
            have kb_m1 : bd (-1) (-1) ((-1) : Int32) := ⟨by decide, by decide⟩
            refine lv_icmp_ne (tgt := 107) hx hb dX2_readOnly_86 (by decide) (fun c_23 => ?_) (fun c_23 => ?_)
            · have fc_23 := neq_f c_23
              have b_24 : bd 0 9 r_18 := neX fc_23 h_19 kb_m1 (by decide)
              refine lv_aload_n hx hb dX2_readOnly_107 rfl (lv_at hl 4 rfl) ?_
              refine g_getk (C := RX2) (T := TX2) (N := 16) hx hb hts (mc_ inX2) hown hK g rfl 3 (by decide) rfl (hts _ (List.mem_cons_of_mem _ t_419)) (fun _ h9 => h9) 4 rfl dX2_readOnly_108 ?_
              refine g_getr (K := 143) (C := RX7) (T := TX7) (N := 19) hx hb hts (mc_ inX7) hown hK g mq0_ kq0_ (by decide) rfl 10 (by decide) rfl (hts _ (List.mem_cons_of_mem _ t_659)) (fun _ h9 => h9) rfl dX2_readOnly_111 (fun a_25 ma_25 ka_25 g => ?_)
              refine lv_iload_n hx hb dX2_readOnly_114 rfl (lv_at hl 3 rfl) ?_
              refine lv_dup2_11 hx hb dX2_readOnly_115 rfl rfl ?_
              refine g_iald hx hb hK g ma_25 ka_25 (by decide) rfl (in_bd h_6 (by decide)) dX2_readOnly_116 (fun x_26 bx_26 => ?_)
              refine lv_iconst (v := 1) hx hb dX2_readOnly_117 (by decide) ?_
              refine lv_iload hx hb dX2_readOnly_118 (lv_at hl 0 rfl) ?_
              refine lv_ishl hx hb dX2_readOnly_120 ?_
              refine lv_topi (fun y_27 ey_27 => ?_)
              refine lv_ior hx hb dX2_readOnly_121 ?_
              refine lv_topi (fun y_28 ey_28 => ?_)
              refine g_iast hx hb hK g ma_25 ka_25 (by decide) rfl (in_bd h_6 (by decide)) (bdT y_28) (by decide) dX2_readOnly_122 (fun f H locs g => ?_)
              refine lv_aload_n hx hb dX2_readOnly_123 rfl (lv_at hl 4 rfl) ?_
              refine g_getk (C := RX2) (T := TX2) (N := 16) hx hb hts (mc_ inX2) hown hK g rfl 0 (by decide) rfl (hts _ (List.mem_cons_of_mem _ t_416)) (fun _ h9 => h9) 2 rfl dX2_readOnly_124 ?_
              refine g_callv (va_runV (As := []) (rest := []) ⟨hx, hb, hml, hown, hts⟩ (r_X8_next l dC dI L kd tys f H.size g.2.2.2.1 a_3 ma_3 ka_3) (cwV 0 hts (gV_ t_1131 t_1103 t_1104 t_184 t_1105) rfl rfl rfl (by decide +kernel) ⟨(Nat.le_of_ble_eq_true rfl), (Nat.le_of_ble_eq_true rfl)⟩) (pre3V g hK ma_3 ka_3 (by decide) (q := (RX8, TX8, 10)) rfl) rfl rfl hl.1 rfl (lv_room (Nat.le_of_ble_eq_true rfl)) dX2_readOnly_127 ⟨(Nat.le_of_ble_eq_true rfl), (Nat.le_of_ble_eq_true rfl)⟩) g hK (by decide) (by decide) (fx' := [(7, 10, q0_, .ref a_25), (7, 13, q0_, .int x_7), (2, 0, a0_, .ref a_3), (5, 2, a_1, .int x_2), (2, 1, a0_, .ref a_1), (2, 3, a0_, .ref q0_), (2, 4, a0_, .ref q1_)]) rfl (fun fr_29 H locs hp hMr_29 g => ?_)
              obtain ⟨x_30, h_31, hF_32⟩ := hp
              have g := g.more hF_32
              refine lv_aload_n hx hb dX2_readOnly_130 rfl (lv_at hl 4 rfl) ?_
              refine g_getk (C := RX2) (T := TX2) (N := 16) hx hb hts (mc_ inX2) hown hK g rfl 0 (by decide) rfl (hts _ (List.mem_cons_of_mem _ t_416)) (fun _ h9 => h9) 3 rfl dX2_readOnly_131 ?_
              refine g_calli (va_runV (As := []) (rest := []) ⟨hx, hb, hml, hown, hts⟩ (r_X8_kind l dC dI L kd tys fr_29 H.size g.2.2.2.1 a_3 ma_3 ka_3) (cwV 0 hts (gV_ t_1118 t_1119 t_1120 t_184 t_1121) rfl rfl rfl (by decide +kernel) ⟨(Nat.le_of_ble_eq_true rfl), (Nat.le_of_ble_eq_true rfl)⟩) (pre3V g hK ma_3 ka_3 (by decide) (q := (RX8, TX8, 10)) rfl) rfl rfl hl.1 rfl (lv_room (Nat.le_of_ble_eq_true rfl)) dX2_readOnly_134 ⟨(Nat.le_of_ble_eq_true rfl), (Nat.le_of_ble_eq_true rfl)⟩) g hK (by decide) (by decide) (fx' := [(8, 6, a_3, .int x_30), (7, 10, q0_, .ref a_25), (7, 13, q0_, .int x_7), (2, 0, a0_, .ref a_3), (5, 2, a_1, .int x_2), (2, 1, a0_, .ref a_1), (2, 3, a0_, .ref q0_), (2, 4, a0_, .ref q1_)]) rfl (fun r_33 fr_33 H locs hp hMr_33 g => ?_)
              refine lv_bipush (v := 44) hx hb dX2_readOnly_137 (by decide) ?_
              have kb_44 : bd 44 44 (44 : Int32) := ⟨by decide, by decide⟩
              refine lv_icmp_ne (tgt := 146) hx hb dX2_readOnly_139 (by decide) (fun c_34 => ?_) (fun c_34 => ?_)
              · have fc_34 := neq_f c_34
                refine lv_iconst (v := 0) hx hb dX2_readOnly_146 (by decide) ?_
                refine lv_istore_n (lv' := [(2, .int 0), (4, .int r_18), (3, .int v27_3), (1, .int r_5), (0, .ref a0_)]) hx hb dX2_readOnly_147 rfl hl (by decide) rfl (fun ls hl => ?_)
                refine lv_iload_n hx hb dX2_readOnly_148 rfl (lv_at hl 0 rfl) ?_
                refine lv_if_eq (tgt := 159) hx hb dX2_readOnly_149 (by decide) (fun c_ => ?_) (fun c_ => absurd (by decide) c_)
                have kb_1 : bd 1 1 (1 : Int32) := ⟨by decide, by decide⟩
                obtain ⟨y_35, ey_35⟩ : ∃ z : Int32, z = v27_3 + 1 := ⟨_, rfl⟩
                refine lv_iinc (v := y_35) (lv' := [(3, .int y_35), (2, .int 0), (4, .int r_18), (1, .int r_5), (0, .ref a0_)]) hx hb dX2_readOnly_159 hl (k := 2) rfl (by rw [ey_35]; rfl) (by decide) rfl (fun ls hl => ?_)
                have ty_35 := add_bd ey_35 b_13 kb_1 (by decide)
                have b_36 : bd 1 1201 y_35 := add_rg ty_35 b_13 kb_1 (by decide)
                refine lv_goto (tgt := 27) hx hb dX2_readOnly_162 (by decide) ?_
                have hl9 := lv_sub hl [0, 1, 3, 4] (by rfl : lv_pick [(3, .int y_35), (2, .int 0), (4, .int r_18), (1, .int r_5), (0, .ref a0_)] [0, 1, 3, 4] = [(3, .int y_35), (2, .int 0), (1, .int r_5), (0, .ref a0_)])
                have g9 := g.sub (fx' := [(7, 13, q0_, .int x_7), (2, 0, a0_, .ref a_3), (5, 2, a_1, .int x_2), (2, 1, a0_, .ref a_1), (2, 3, a0_, .ref q0_), (2, 4, a0_, .ref q1_)]) [2, 3, 4, 5, 6, 7] rfl
                exact ih  y_35 0 (bd_sub b_36 (by decide)) (bd_sub kb_0 (by decide)) (by have h9_0 := b_36; unfold bd at h9_0; have h9_1 := kb_0; unfold bd at h9_1; have h9_2 := kb_1; unfold bd at h9_2; have h9_3 := kb_1200; unfold bd at h9_3; have h9_4 := kb_3; unfold bd at h9_4; have h9_5 := kb_44; unfold bd at h9_5; have h9_6 := kb_m1; unfold bd at h9_6; omega) _ _ _ _ g9 hl9
              · have fc_34 := eq_f c_34
                have b_37 : bd 44 44 r_33 := eqX fc_34 (bdT r_33) kb_44 (by decide)
                refine lv_iconst (v := 1) hx hb dX2_readOnly_142 (by decide) ?_
                refine lv_goto (tgt := 147) hx hb dX2_readOnly_143 (by decide) ?_
                refine lv_istore_n (lv' := [(2, .int 1), (4, .int r_18), (3, .int v27_3), (1, .int r_5), (0, .ref a0_)]) hx hb dX2_readOnly_147 rfl hl (by decide) rfl (fun ls hl => ?_)
                refine lv_iload_n hx hb dX2_readOnly_148 rfl (lv_at hl 0 rfl) ?_
                refine lv_if_eq (tgt := 159) hx hb dX2_readOnly_149 (by decide) (fun c_ => absurd c_ (by decide)) (fun c_ => ?_)
                refine lv_aload_n hx hb dX2_readOnly_152 rfl (lv_at hl 4 rfl) ?_
                refine g_getk (C := RX2) (T := TX2) (N := 16) hx hb hts (mc_ inX2) hown hK g rfl 0 (by decide) rfl (hts _ (List.mem_cons_of_mem _ t_416)) (fun _ h9 => h9) 3 rfl dX2_readOnly_153 ?_
                refine g_callv (va_runV (As := []) (rest := []) ⟨hx, hb, hml, hown, hts⟩ (r_X8_next l dC dI L kd tys fr_33 H.size g.2.2.2.1 a_3 ma_3 ka_3) (cwV 0 hts (gV_ t_1131 t_1103 t_1104 t_184 t_1105) rfl rfl rfl (by decide +kernel) ⟨(Nat.le_of_ble_eq_true rfl), (Nat.le_of_ble_eq_true rfl)⟩) (pre3V g hK ma_3 ka_3 (by decide) (q := (RX8, TX8, 10)) rfl) rfl rfl hl.1 rfl (lv_room (Nat.le_of_ble_eq_true rfl)) dX2_readOnly_156 ⟨(Nat.le_of_ble_eq_true rfl), (Nat.le_of_ble_eq_true rfl)⟩) g hK (by decide) (by decide) (fx' := [(7, 10, q0_, .ref a_25), (7, 13, q0_, .int x_7), (2, 0, a0_, .ref a_3), (5, 2, a_1, .int x_2), (2, 1, a0_, .ref a_1), (2, 3, a0_, .ref q0_), (2, 4, a0_, .ref q1_)]) rfl (fun fr_38 H locs hp hMr_38 g => ?_)
                obtain ⟨x_39, h_40, hF_41⟩ := hp
                have g := g.more hF_41
                have kb_1 : bd 1 1 (1 : Int32) := ⟨by decide, by decide⟩
                obtain ⟨y_42, ey_42⟩ : ∃ z : Int32, z = v27_3 + 1 := ⟨_, rfl⟩
                refine lv_iinc (v := y_42) (lv' := [(3, .int y_42), (2, .int 1), (4, .int r_18), (1, .int r_5), (0, .ref a0_)]) hx hb dX2_readOnly_159 hl (k := 2) rfl (by rw [ey_42]; rfl) (by decide) rfl (fun ls hl => ?_)
                have ty_42 := add_bd ey_42 b_13 kb_1 (by decide)
                have b_43 : bd 1 1201 y_42 := add_rg ty_42 b_13 kb_1 (by decide)
                refine lv_goto (tgt := 27) hx hb dX2_readOnly_162 (by decide) ?_
                have hl9 := lv_sub hl [0, 1, 3, 4] (by rfl : lv_pick [(3, .int y_42), (2, .int 1), (4, .int r_18), (1, .int r_5), (0, .ref a0_)] [0, 1, 3, 4] = [(3, .int y_42), (2, .int 1), (1, .int r_5), (0, .ref a0_)])
                have g9 := g.sub (fx' := [(7, 13, q0_, .int x_7), (2, 0, a0_, .ref a_3), (5, 2, a_1, .int x_2), (2, 1, a0_, .ref a_1), (2, 3, a0_, .ref q0_), (2, 4, a0_, .ref q1_)]) [2, 3, 4, 5, 6, 7] rfl
                exact ih  y_42 1 (bd_sub b_43 (by decide)) (bd_sub kb_1 (by decide)) (by have h9_0 := b_43; unfold bd at h9_0; have h9_1 := kb_0; unfold bd at h9_1; have h9_2 := kb_1; unfold bd at h9_2; have h9_3 := kb_1200; unfold bd at h9_3; have h9_4 := kb_3; unfold bd at h9_4; have h9_5 := kb_44; unfold bd at h9_5; have h9_6 := kb_m1; unfold bd at h9_6; omega) _ _ _ _ g9 hl9
            · have fc_23 := eq_f c_23
              have b_44 : bd (-1) (-1) r_18 := eqX fc_23 h_19 kb_m1 (by decide)
              refine lv_aload_n hx hb dX2_readOnly_89 rfl (lv_at hl 4 rfl) ?_
              refine g_getk (C := RX2) (T := TX2) (N := 16) hx hb hts (mc_ inX2) hown hK g rfl 0 (by decide) rfl (hts _ (List.mem_cons_of_mem _ t_416)) (fun _ h9 => h9) 1 rfl dX2_readOnly_90 ?_
              refine lv_iconst (v := 2) hx hb dX2_readOnly_93 (by decide) ?_
              refine lv_aload_n hx hb dX2_readOnly_94 rfl (lv_at hl 4 rfl) ?_
              refine g_getk (C := RX2) (T := TX2) (N := 16) hx hb hts (mc_ inX2) hown hK g rfl 0 (by decide) rfl (hts _ (List.mem_cons_of_mem _ t_416)) (fun _ h9 => h9) 1 rfl dX2_readOnly_95 ?_
              refine g_calli (va_runV (As := []) (rest := [.int 2, .ref a_3]) ⟨hx, hb, hml, hown, hts⟩ (r_X8_place l dC dI L kd tys fr_20 H.size g.2.2.2.1 a_3 ma_3 ka_3) (cwV 0 hts (gV_ t_1110 t_1111 t_1112 t_184 t_1113) rfl rfl rfl (by decide +kernel) ⟨(Nat.le_of_ble_eq_true rfl), (Nat.le_of_ble_eq_true rfl)⟩) (pre3V g hK ma_3 ka_3 (by decide) (q := (RX8, TX8, 10)) rfl) rfl rfl hl.1 rfl (lv_room (Nat.le_of_ble_eq_true rfl)) dX2_readOnly_98 ⟨(Nat.le_of_ble_eq_true rfl), (Nat.le_of_ble_eq_true rfl)⟩) g hK (by decide) (by decide) (fx' := [(7, 13, q0_, .int x_7), (2, 0, a0_, .ref a_3), (5, 2, a_1, .int x_2), (2, 1, a0_, .ref a_1), (2, 3, a0_, .ref q0_), (2, 4, a0_, .ref q1_)]) rfl (fun r_45 fr_45 H locs hp hMr_45 g => ?_)
              have kb_2 : bd 2 2 (2 : Int32) := ⟨by decide, by decide⟩
              refine g_callv (va_runV (As := [.int 2, .int r_45]) (rest := []) ⟨hx, hb, hml, hown, hts⟩ (r_X8_fail_14 l dC dI L kd tys fr_45 H.size g.2.2.2.1 a_3 ma_3 ka_3 2 kb_2 r_45) (cwV 2 hts (gV_ t_1122 t_1107 t_1108 t_184 t_1109) rfl rfl rfl (by decide +kernel) ⟨(Nat.le_of_ble_eq_true rfl), (Nat.le_of_ble_eq_true rfl)⟩) (pre3V g hK ma_3 ka_3 (by decide) (q := (RX8, TX8, 10)) rfl) rfl rfl hl.1 rfl (lv_room (Nat.le_of_ble_eq_true rfl)) dX2_readOnly_101 ⟨(Nat.le_of_ble_eq_true rfl), (Nat.le_of_ble_eq_true rfl)⟩) g hK (by decide) (by decide) (fx' := [(7, 13, q0_, .int x_7), (2, 0, a0_, .ref a_3), (5, 2, a_1, .int x_2), (2, 1, a0_, .ref a_1), (2, 3, a0_, .ref q0_), (2, 4, a0_, .ref q1_)]) rfl (fun fr_46 H locs hp hMr_46 g => ?_)
              obtain ⟨x_47, h_48, hF_49⟩ := hp
              have g := g.more hF_49
              refine lv_goto (tgt := 123) hx hb dX2_readOnly_104 (by decide) ?_
              refine lv_aload_n hx hb dX2_readOnly_123 rfl (lv_at hl 4 rfl) ?_
              refine g_getk (C := RX2) (T := TX2) (N := 16) hx hb hts (mc_ inX2) hown hK g rfl 0 (by decide) rfl (hts _ (List.mem_cons_of_mem _ t_416)) (fun _ h9 => h9) 3 rfl dX2_readOnly_124 ?_
              refine g_callv (va_runV (As := []) (rest := []) ⟨hx, hb, hml, hown, hts⟩ (r_X8_next l dC dI L kd tys fr_46 H.size g.2.2.2.1 a_3 ma_3 ka_3) (cwV 0 hts (gV_ t_1131 t_1103 t_1104 t_184 t_1105) rfl rfl rfl (by decide +kernel) ⟨(Nat.le_of_ble_eq_true rfl), (Nat.le_of_ble_eq_true rfl)⟩) (pre3V g hK ma_3 ka_3 (by decide) (q := (RX8, TX8, 10)) rfl) rfl rfl hl.1 rfl (lv_room (Nat.le_of_ble_eq_true rfl)) dX2_readOnly_127 ⟨(Nat.le_of_ble_eq_true rfl), (Nat.le_of_ble_eq_true rfl)⟩) g hK (by decide) (by decide) (fx' := [(8, 8, a_3, .int x_47), (7, 13, q0_, .int x_7), (2, 0, a0_, .ref a_3), (5, 2, a_1, .int x_2), (2, 1, a0_, .ref a_1), (2, 3, a0_, .ref q0_), (2, 4, a0_, .ref q1_)]) rfl (fun fr_50 H locs hp hMr_50 g => ?_)
              obtain ⟨x_51, h_52, hF_53⟩ := hp
              have g := g.more hF_53
              refine lv_aload_n hx hb dX2_readOnly_130 rfl (lv_at hl 4 rfl) ?_
              refine g_getk (C := RX2) (T := TX2) (N := 16) hx hb hts (mc_ inX2) hown hK g rfl 0 (by decide) rfl (hts _ (List.mem_cons_of_mem _ t_416)) (fun _ h9 => h9) 3 rfl dX2_readOnly_131 ?_
              refine g_calli (va_runV (As := []) (rest := []) ⟨hx, hb, hml, hown, hts⟩ (r_X8_kind l dC dI L kd tys fr_50 H.size g.2.2.2.1 a_3 ma_3 ka_3) (cwV 0 hts (gV_ t_1118 t_1119 t_1120 t_184 t_1121) rfl rfl rfl (by decide +kernel) ⟨(Nat.le_of_ble_eq_true rfl), (Nat.le_of_ble_eq_true rfl)⟩) (pre3V g hK ma_3 ka_3 (by decide) (q := (RX8, TX8, 10)) rfl) rfl rfl hl.1 rfl (lv_room (Nat.le_of_ble_eq_true rfl)) dX2_readOnly_134 ⟨(Nat.le_of_ble_eq_true rfl), (Nat.le_of_ble_eq_true rfl)⟩) g hK (by decide) (by decide) (fx' := [(8, 6, a_3, .int x_51), (8, 8, a_3, .int x_47), (7, 13, q0_, .int x_7), (2, 0, a0_, .ref a_3), (5, 2, a_1, .int x_2), (2, 1, a0_, .ref a_1), (2, 3, a0_, .ref q0_), (2, 4, a0_, .ref q1_)]) rfl (fun r_54 fr_54 H locs hp hMr_54 g => ?_)
              refine lv_bipush (v := 44) hx hb dX2_readOnly_137 (by decide) ?_
              have kb_44 : bd 44 44 (44 : Int32) := ⟨by decide, by decide⟩
              refine lv_icmp_ne (tgt := 146) hx hb dX2_readOnly_139 (by decide) (fun c_55 => ?_) (fun c_55 => ?_)
              · have fc_55 := neq_f c_55
                refine lv_iconst (v := 0) hx hb dX2_readOnly_146 (by decide) ?_
                refine lv_istore_n (lv' := [(2, .int 0), (4, .int r_18), (3, .int v27_3), (1, .int r_5), (0, .ref a0_)]) hx hb dX2_readOnly_147 rfl hl (by decide) rfl (fun ls hl => ?_)
                refine lv_iload_n hx hb dX2_readOnly_148 rfl (lv_at hl 0 rfl) ?_
                refine lv_if_eq (tgt := 159) hx hb dX2_readOnly_149 (by decide) (fun c_ => ?_) (fun c_ => absurd (by decide) c_)
                have kb_1 : bd 1 1 (1 : Int32) := ⟨by decide, by decide⟩
                obtain ⟨y_56, ey_56⟩ : ∃ z : Int32, z = v27_3 + 1 := ⟨_, rfl⟩
                refine lv_iinc (v := y_56) (lv' := [(3, .int y_56), (2, .int 0), (4, .int r_18), (1, .int r_5), (0, .ref a0_)]) hx hb dX2_readOnly_159 hl (k := 2) rfl (by rw [ey_56]; rfl) (by decide) rfl (fun ls hl => ?_)
                have ty_56 := add_bd ey_56 b_13 kb_1 (by decide)
                have b_57 : bd 1 1201 y_56 := add_rg ty_56 b_13 kb_1 (by decide)
                refine lv_goto (tgt := 27) hx hb dX2_readOnly_162 (by decide) ?_
                have hl9 := lv_sub hl [0, 1, 3, 4] (by rfl : lv_pick [(3, .int y_56), (2, .int 0), (4, .int r_18), (1, .int r_5), (0, .ref a0_)] [0, 1, 3, 4] = [(3, .int y_56), (2, .int 0), (1, .int r_5), (0, .ref a0_)])
                have g9 := g.sub (fx' := [(7, 13, q0_, .int x_7), (2, 0, a0_, .ref a_3), (5, 2, a_1, .int x_2), (2, 1, a0_, .ref a_1), (2, 3, a0_, .ref q0_), (2, 4, a0_, .ref q1_)]) [2, 3, 4, 5, 6, 7] rfl
                exact ih  y_56 0 (bd_sub b_57 (by decide)) (bd_sub kb_0 (by decide)) (by have h9_0 := b_57; unfold bd at h9_0; have h9_1 := kb_0; unfold bd at h9_1; have h9_2 := kb_1; unfold bd at h9_2; have h9_3 := kb_1200; unfold bd at h9_3; have h9_4 := kb_2; unfold bd at h9_4; have h9_5 := kb_3; unfold bd at h9_5; have h9_6 := kb_44; unfold bd at h9_6; have h9_7 := kb_m1; unfold bd at h9_7; omega) _ _ _ _ g9 hl9
              · have fc_55 := eq_f c_55
                have b_58 : bd 44 44 r_54 := eqX fc_55 (bdT r_54) kb_44 (by decide)
                refine lv_iconst (v := 1) hx hb dX2_readOnly_142 (by decide) ?_
                refine lv_goto (tgt := 147) hx hb dX2_readOnly_143 (by decide) ?_
                refine lv_istore_n (lv' := [(2, .int 1), (4, .int r_18), (3, .int v27_3), (1, .int r_5), (0, .ref a0_)]) hx hb dX2_readOnly_147 rfl hl (by decide) rfl (fun ls hl => ?_)
                refine lv_iload_n hx hb dX2_readOnly_148 rfl (lv_at hl 0 rfl) ?_
                refine lv_if_eq (tgt := 159) hx hb dX2_readOnly_149 (by decide) (fun c_ => absurd c_ (by decide)) (fun c_ => ?_)
                refine lv_aload_n hx hb dX2_readOnly_152 rfl (lv_at hl 4 rfl) ?_
                refine g_getk (C := RX2) (T := TX2) (N := 16) hx hb hts (mc_ inX2) hown hK g rfl 0 (by decide) rfl (hts _ (List.mem_cons_of_mem _ t_416)) (fun _ h9 => h9) 3 rfl dX2_readOnly_153 ?_
                refine g_callv (va_runV (As := []) (rest := []) ⟨hx, hb, hml, hown, hts⟩ (r_X8_next l dC dI L kd tys fr_54 H.size g.2.2.2.1 a_3 ma_3 ka_3) (cwV 0 hts (gV_ t_1131 t_1103 t_1104 t_184 t_1105) rfl rfl rfl (by decide +kernel) ⟨(Nat.le_of_ble_eq_true rfl), (Nat.le_of_ble_eq_true rfl)⟩) (pre3V g hK ma_3 ka_3 (by decide) (q := (RX8, TX8, 10)) rfl) rfl rfl hl.1 rfl (lv_room (Nat.le_of_ble_eq_true rfl)) dX2_readOnly_156 ⟨(Nat.le_of_ble_eq_true rfl), (Nat.le_of_ble_eq_true rfl)⟩) g hK (by decide) (by decide) (fx' := [(8, 8, a_3, .int x_47), (7, 13, q0_, .int x_7), (2, 0, a0_, .ref a_3), (5, 2, a_1, .int x_2), (2, 1, a0_, .ref a_1), (2, 3, a0_, .ref q0_), (2, 4, a0_, .ref q1_)]) rfl (fun fr_59 H locs hp hMr_59 g => ?_)
                obtain ⟨x_60, h_61, hF_62⟩ := hp
                have g := g.more hF_62
                have kb_1 : bd 1 1 (1 : Int32) := ⟨by decide, by decide⟩
                obtain ⟨y_63, ey_63⟩ : ∃ z : Int32, z = v27_3 + 1 := ⟨_, rfl⟩
                refine lv_iinc (v := y_63) (lv' := [(3, .int y_63), (2, .int 1), (4, .int r_18), (1, .int r_5), (0, .ref a0_)]) hx hb dX2_readOnly_159 hl (k := 2) rfl (by rw [ey_63]; rfl) (by decide) rfl (fun ls hl => ?_)
                have ty_63 := add_bd ey_63 b_13 kb_1 (by decide)
                have b_64 : bd 1 1201 y_63 := add_rg ty_63 b_13 kb_1 (by decide)
                refine lv_goto (tgt := 27) hx hb dX2_readOnly_162 (by decide) ?_
                have hl9 := lv_sub hl [0, 1, 3, 4] (by rfl : lv_pick [(3, .int y_63), (2, .int 1), (4, .int r_18), (1, .int r_5), (0, .ref a0_)] [0, 1, 3, 4] = [(3, .int y_63), (2, .int 1), (1, .int r_5), (0, .ref a0_)])
                have g9 := g.sub (fx' := [(7, 13, q0_, .int x_7), (2, 0, a0_, .ref a_3), (5, 2, a_1, .int x_2), (2, 1, a0_, .ref a_1), (2, 3, a0_, .ref q0_), (2, 4, a0_, .ref q1_)]) [2, 3, 4, 5, 6, 7] rfl
                exact ih  y_63 1 (bd_sub b_64 (by decide)) (bd_sub kb_1 (by decide)) (by have h9_0 := b_64; unfold bd at h9_0; have h9_1 := kb_0; unfold bd at h9_1; have h9_2 := kb_1; unfold bd at h9_2; have h9_3 := kb_1200; unfold bd at h9_3; have h9_4 := kb_2; unfold bd at h9_4; have h9_5 := kb_3; unfold bd at h9_5; have h9_6 := kb_44; unfold bd at h9_6; have h9_7 := kb_m1; unfold bd at h9_7; omega) _ _ _ _ g9 hl9
          · have fc_21 := neq_f c_21
            refine lv_aload_n hx hb dX2_readOnly_65 rfl (lv_at hl 4 rfl) ?_
            refine g_getk (C := RX2) (T := TX2) (N := 16) hx hb hts (mc_ inX2) hown hK g rfl 0 (by decide) rfl (hts _ (List.mem_cons_of_mem _ t_416)) (fun _ h9 => h9) 1 rfl dX2_readOnly_66 ?_
            refine lv_iconst (v := 1) hx hb dX2_readOnly_69 (by decide) ?_
            refine lv_aload_n hx hb dX2_readOnly_70 rfl (lv_at hl 4 rfl) ?_
            refine g_getk (C := RX2) (T := TX2) (N := 16) hx hb hts (mc_ inX2) hown hK g rfl 0 (by decide) rfl (hts _ (List.mem_cons_of_mem _ t_416)) (fun _ h9 => h9) 1 rfl dX2_readOnly_71 ?_
            refine g_calli (va_runV (As := []) (rest := [.int 1, .ref a_3]) ⟨hx, hb, hml, hown, hts⟩ (r_X8_place l dC dI L kd tys fr_20 H.size g.2.2.2.1 a_3 ma_3 ka_3) (cwV 0 hts (gV_ t_1110 t_1111 t_1112 t_184 t_1113) rfl rfl rfl (by decide +kernel) ⟨(Nat.le_of_ble_eq_true rfl), (Nat.le_of_ble_eq_true rfl)⟩) (pre3V g hK ma_3 ka_3 (by decide) (q := (RX8, TX8, 10)) rfl) rfl rfl hl.1 rfl (lv_room (Nat.le_of_ble_eq_true rfl)) dX2_readOnly_74 ⟨(Nat.le_of_ble_eq_true rfl), (Nat.le_of_ble_eq_true rfl)⟩) g hK (by decide) (by decide) (fx' := [(7, 13, q0_, .int x_7), (2, 0, a0_, .ref a_3), (5, 2, a_1, .int x_2), (2, 1, a0_, .ref a_1), (2, 3, a0_, .ref q0_), (2, 4, a0_, .ref q1_)]) rfl (fun r_65 fr_65 H locs hp hMr_65 g => ?_)
            have kb_1 : bd 1 1 (1 : Int32) := ⟨by decide, by decide⟩
            refine g_callv (va_runV (As := [.int 1, .int r_65]) (rest := []) ⟨hx, hb, hml, hown, hts⟩ (r_X8_fail_6 l dC dI L kd tys fr_65 H.size g.2.2.2.1 a_3 ma_3 ka_3 1 kb_1 r_65) (cwV 2 hts (gV_ t_1122 t_1107 t_1108 t_184 t_1109) rfl rfl rfl (by decide +kernel) ⟨(Nat.le_of_ble_eq_true rfl), (Nat.le_of_ble_eq_true rfl)⟩) (pre3V g hK ma_3 ka_3 (by decide) (q := (RX8, TX8, 10)) rfl) rfl rfl hl.1 rfl (lv_room (Nat.le_of_ble_eq_true rfl)) dX2_readOnly_77 ⟨(Nat.le_of_ble_eq_true rfl), (Nat.le_of_ble_eq_true rfl)⟩) g hK (by decide) (by decide) (fx' := [(7, 13, q0_, .int x_7), (2, 0, a0_, .ref a_3), (5, 2, a_1, .int x_2), (2, 1, a0_, .ref a_1), (2, 3, a0_, .ref q0_), (2, 4, a0_, .ref q1_)]) rfl (fun fr_66 H locs hp hMr_66 g => ?_)
            obtain ⟨x_67, h_68, hF_69⟩ := hp
            have g := g.more hF_69
            refine lv_goto (tgt := 123) hx hb dX2_readOnly_80 (by decide) ?_
            refine lv_aload_n hx hb dX2_readOnly_123 rfl (lv_at hl 4 rfl) ?_
            refine g_getk (C := RX2) (T := TX2) (N := 16) hx hb hts (mc_ inX2) hown hK g rfl 0 (by decide) rfl (hts _ (List.mem_cons_of_mem _ t_416)) (fun _ h9 => h9) 3 rfl dX2_readOnly_124 ?_
            refine g_callv (va_runV (As := []) (rest := []) ⟨hx, hb, hml, hown, hts⟩ (r_X8_next l dC dI L kd tys fr_66 H.size g.2.2.2.1 a_3 ma_3 ka_3) (cwV 0 hts (gV_ t_1131 t_1103 t_1104 t_184 t_1105) rfl rfl rfl (by decide +kernel) ⟨(Nat.le_of_ble_eq_true rfl), (Nat.le_of_ble_eq_true rfl)⟩) (pre3V g hK ma_3 ka_3 (by decide) (q := (RX8, TX8, 10)) rfl) rfl rfl hl.1 rfl (lv_room (Nat.le_of_ble_eq_true rfl)) dX2_readOnly_127 ⟨(Nat.le_of_ble_eq_true rfl), (Nat.le_of_ble_eq_true rfl)⟩) g hK (by decide) (by decide) (fx' := [(8, 8, a_3, .int x_67), (7, 13, q0_, .int x_7), (2, 0, a0_, .ref a_3), (5, 2, a_1, .int x_2), (2, 1, a0_, .ref a_1), (2, 3, a0_, .ref q0_), (2, 4, a0_, .ref q1_)]) rfl (fun fr_70 H locs hp hMr_70 g => ?_)
            obtain ⟨x_71, h_72, hF_73⟩ := hp
            have g := g.more hF_73
            refine lv_aload_n hx hb dX2_readOnly_130 rfl (lv_at hl 4 rfl) ?_
            refine g_getk (C := RX2) (T := TX2) (N := 16) hx hb hts (mc_ inX2) hown hK g rfl 0 (by decide) rfl (hts _ (List.mem_cons_of_mem _ t_416)) (fun _ h9 => h9) 3 rfl dX2_readOnly_131 ?_
            refine g_calli (va_runV (As := []) (rest := []) ⟨hx, hb, hml, hown, hts⟩ (r_X8_kind l dC dI L kd tys fr_70 H.size g.2.2.2.1 a_3 ma_3 ka_3) (cwV 0 hts (gV_ t_1118 t_1119 t_1120 t_184 t_1121) rfl rfl rfl (by decide +kernel) ⟨(Nat.le_of_ble_eq_true rfl), (Nat.le_of_ble_eq_true rfl)⟩) (pre3V g hK ma_3 ka_3 (by decide) (q := (RX8, TX8, 10)) rfl) rfl rfl hl.1 rfl (lv_room (Nat.le_of_ble_eq_true rfl)) dX2_readOnly_134 ⟨(Nat.le_of_ble_eq_true rfl), (Nat.le_of_ble_eq_true rfl)⟩) g hK (by decide) (by decide) (fx' := [(8, 6, a_3, .int x_71), (8, 8, a_3, .int x_67), (7, 13, q0_, .int x_7), (2, 0, a0_, .ref a_3), (5, 2, a_1, .int x_2), (2, 1, a0_, .ref a_1), (2, 3, a0_, .ref q0_), (2, 4, a0_, .ref q1_)]) rfl (fun r_74 fr_74 H locs hp hMr_74 g => ?_)
            refine lv_bipush (v := 44) hx hb dX2_readOnly_137 (by decide) ?_
            have kb_44 : bd 44 44 (44 : Int32) := ⟨by decide, by decide⟩
            refine lv_icmp_ne (tgt := 146) hx hb dX2_readOnly_139 (by decide) (fun c_75 => ?_) (fun c_75 => ?_)
            · have fc_75 := neq_f c_75
              refine lv_iconst (v := 0) hx hb dX2_readOnly_146 (by decide) ?_
              refine lv_istore_n (lv' := [(2, .int 0), (4, .int r_18), (3, .int v27_3), (1, .int r_5), (0, .ref a0_)]) hx hb dX2_readOnly_147 rfl hl (by decide) rfl (fun ls hl => ?_)
              refine lv_iload_n hx hb dX2_readOnly_148 rfl (lv_at hl 0 rfl) ?_
              refine lv_if_eq (tgt := 159) hx hb dX2_readOnly_149 (by decide) (fun c_ => ?_) (fun c_ => absurd (by decide) c_)
              obtain ⟨y_76, ey_76⟩ : ∃ z : Int32, z = v27_3 + 1 := ⟨_, rfl⟩
              refine lv_iinc (v := y_76) (lv' := [(3, .int y_76), (2, .int 0), (4, .int r_18), (1, .int r_5), (0, .ref a0_)]) hx hb dX2_readOnly_159 hl (k := 2) rfl (by rw [ey_76]; rfl) (by decide) rfl (fun ls hl => ?_)
              have ty_76 := add_bd ey_76 b_13 kb_1 (by decide)
              have b_77 : bd 1 1201 y_76 := add_rg ty_76 b_13 kb_1 (by decide)
              refine lv_goto (tgt := 27) hx hb dX2_readOnly_162 (by decide) ?_
              have hl9 := lv_sub hl [0, 1, 3, 4] (by rfl : lv_pick [(3, .int y_76), (2, .int 0), (4, .int r_18), (1, .int r_5), (0, .ref a0_)] [0, 1, 3, 4] = [(3, .int y_76), (2, .int 0), (1, .int r_5), (0, .ref a0_)])
              have g9 := g.sub (fx' := [(7, 13, q0_, .int x_7), (2, 0, a0_, .ref a_3), (5, 2, a_1, .int x_2), (2, 1, a0_, .ref a_1), (2, 3, a0_, .ref q0_), (2, 4, a0_, .ref q1_)]) [2, 3, 4, 5, 6, 7] rfl
              exact ih  y_76 0 (bd_sub b_77 (by decide)) (bd_sub kb_0 (by decide)) (by have h9_0 := b_77; unfold bd at h9_0; have h9_1 := kb_0; unfold bd at h9_1; have h9_2 := kb_1; unfold bd at h9_2; have h9_3 := kb_1200; unfold bd at h9_3; have h9_4 := kb_3; unfold bd at h9_4; have h9_5 := kb_44; unfold bd at h9_5; omega) _ _ _ _ g9 hl9
            · have fc_75 := eq_f c_75
              have b_78 : bd 44 44 r_74 := eqX fc_75 (bdT r_74) kb_44 (by decide)
              refine lv_iconst (v := 1) hx hb dX2_readOnly_142 (by decide) ?_
              refine lv_goto (tgt := 147) hx hb dX2_readOnly_143 (by decide) ?_
              refine lv_istore_n (lv' := [(2, .int 1), (4, .int r_18), (3, .int v27_3), (1, .int r_5), (0, .ref a0_)]) hx hb dX2_readOnly_147 rfl hl (by decide) rfl (fun ls hl => ?_)
              refine lv_iload_n hx hb dX2_readOnly_148 rfl (lv_at hl 0 rfl) ?_
              refine lv_if_eq (tgt := 159) hx hb dX2_readOnly_149 (by decide) (fun c_ => absurd c_ (by decide)) (fun c_ => ?_)
              refine lv_aload_n hx hb dX2_readOnly_152 rfl (lv_at hl 4 rfl) ?_
              refine g_getk (C := RX2) (T := TX2) (N := 16) hx hb hts (mc_ inX2) hown hK g rfl 0 (by decide) rfl (hts _ (List.mem_cons_of_mem _ t_416)) (fun _ h9 => h9) 3 rfl dX2_readOnly_153 ?_
              refine g_callv (va_runV (As := []) (rest := []) ⟨hx, hb, hml, hown, hts⟩ (r_X8_next l dC dI L kd tys fr_74 H.size g.2.2.2.1 a_3 ma_3 ka_3) (cwV 0 hts (gV_ t_1131 t_1103 t_1104 t_184 t_1105) rfl rfl rfl (by decide +kernel) ⟨(Nat.le_of_ble_eq_true rfl), (Nat.le_of_ble_eq_true rfl)⟩) (pre3V g hK ma_3 ka_3 (by decide) (q := (RX8, TX8, 10)) rfl) rfl rfl hl.1 rfl (lv_room (Nat.le_of_ble_eq_true rfl)) dX2_readOnly_156 ⟨(Nat.le_of_ble_eq_true rfl), (Nat.le_of_ble_eq_true rfl)⟩) g hK (by decide) (by decide) (fx' := [(8, 8, a_3, .int x_67), (7, 13, q0_, .int x_7), (2, 0, a0_, .ref a_3), (5, 2, a_1, .int x_2), (2, 1, a0_, .ref a_1), (2, 3, a0_, .ref q0_), (2, 4, a0_, .ref q1_)]) rfl (fun fr_79 H locs hp hMr_79 g => ?_)
              obtain ⟨x_80, h_81, hF_82⟩ := hp
              have g := g.more hF_82
              obtain ⟨y_83, ey_83⟩ : ∃ z : Int32, z = v27_3 + 1 := ⟨_, rfl⟩
              refine lv_iinc (v := y_83) (lv' := [(3, .int y_83), (2, .int 1), (4, .int r_18), (1, .int r_5), (0, .ref a0_)]) hx hb dX2_readOnly_159 hl (k := 2) rfl (by rw [ey_83]; rfl) (by decide) rfl (fun ls hl => ?_)
              have ty_83 := add_bd ey_83 b_13 kb_1 (by decide)
              have b_84 : bd 1 1201 y_83 := add_rg ty_83 b_13 kb_1 (by decide)
              refine lv_goto (tgt := 27) hx hb dX2_readOnly_162 (by decide) ?_
              have hl9 := lv_sub hl [0, 1, 3, 4] (by rfl : lv_pick [(3, .int y_83), (2, .int 1), (4, .int r_18), (1, .int r_5), (0, .ref a0_)] [0, 1, 3, 4] = [(3, .int y_83), (2, .int 1), (1, .int r_5), (0, .ref a0_)])
              have g9 := g.sub (fx' := [(7, 13, q0_, .int x_7), (2, 0, a0_, .ref a_3), (5, 2, a_1, .int x_2), (2, 1, a0_, .ref a_1), (2, 3, a0_, .ref q0_), (2, 4, a0_, .ref q1_)]) [2, 3, 4, 5, 6, 7] rfl
              exact ih  y_83 1 (bd_sub b_84 (by decide)) (bd_sub kb_1 (by decide)) (by have h9_0 := b_84; unfold bd at h9_0; have h9_1 := kb_0; unfold bd at h9_1; have h9_2 := kb_1; unfold bd at h9_2; have h9_3 := kb_1200; unfold bd at h9_3; have h9_4 := kb_3; unfold bd at h9_4; have h9_5 := kb_44; unfold bd at h9_5; omega) _ _ _ _ g9 hl9
  have kb_0 : bd 0 0 (0 : Int32) := ⟨by decide, by decide⟩
  have kb_1 : bd 1 1 (1 : Int32) := ⟨by decide, by decide⟩
  have hl9 := lv_sub hl [0, 1, 2, 3] (by rfl : lv_pick [(3, .int 0), (2, .int 1), (1, .int r_5), (0, .ref a0_)] [0, 1, 2, 3] = [(3, .int 0), (2, .int 1), (1, .int r_5), (0, .ref a0_)])
  have g9 := g.sub (fx' := [(7, 13, q0_, .int x_7), (2, 0, a0_, .ref a_3), (5, 2, a_1, .int x_2), (2, 1, a0_, .ref a_1), (2, 3, a0_, .ref q0_), (2, 4, a0_, .ref q1_)]) [0, 1, 2, 3, 4, 5] rfl
  exact loop_10 (2405) 0 1 (bd_sub kb_0 (by decide)) (bd_sub kb_1 (by decide)) (by have h9_0 := kb_0; unfold bd at h9_0; have h9_1 := kb_1; unfold bd at h9_1; omega) _ _ _ _ g9 hl9
