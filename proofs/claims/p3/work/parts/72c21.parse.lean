set_option maxHeartbeats 4000000 in
set_option maxRecDepth 100000 in
theorem r_X2_readParam (l : Launch) (dC : Nat → ClassId) (dI : Nat → Nat → Nat) (L : List Nat) (kd : Nat → Nat) (tys : List (ClassId × FieldType)) (f0 : Nat → va_E) (sz : Nat) (hWT : WT L kd tys f0) (a0_ : Nat) (ma0_ : a0_ ∈ L) (ka0_ : kd a0_ = 2) (q0_ : Nat) (mq0_ : q0_ ∈ L) (kq0_ : kd q0_ = 8) (q1_ : Nat) (mq1_ : q1_ ∈ L) (kq1_ : kd q1_ = 5) (q2_ : Nat) (mq2_ : q2_ ∈ L) (kq2_ : kd q2_ = 6) (q3_ : Nat) (mq3_ : q3_ ∈ L) (kq3_ : kd q3_ = 9) (y0_ : Int32) (by0_ : bd 0 0 y0_) (hfx : Fs L kd f0 [(2, 0, a0_, .ref q0_), (2, 1, a0_, .ref q1_), (2, 5, a0_, .ref q2_), (5, 1, q1_, .ref q3_), (8, 8, q0_, .int y0_)]) : Met l yX2_readParam (.code yX2_readParam cX2_readParam 7 none :: lw_g) ({ frames := 2, cells := 0, slots := 0, locals := 46 }) (va_Pc [.ref a0_] (P3 (dC, dI) L tys f0 sz)) (va_Qv (fun (f : Nat → va_E) => (∃ z0_ : Int32, bd 1 3 z0_ ∧ ∃ z1_ : Int32, bd 1 3 z1_ ∧ ∃ z2_ : Int32, bd 1 1201 z2_ ∧ Fs L kd f [(6, 3, q2_, .int z0_), (5, 4, q1_, .int z1_), (8, 6, q0_, .int z2_), (8, 8, q0_, .int y0_)]) ∨ (∃ z1_ : Int32, bd 1 7 z1_ ∧ Fs L kd f [(8, 6, q0_, .int 1201), (8, 8, q0_, .int z1_)])) (Q3 (dC, dI) L kd tys [(5, 4), (6, 3), (8, 6), (8, 8), (8, 9)] [132, 134, 135] f0 sz) (pA L sz)) 0 0 (pA L sz) := by
  refine Met.ofW (cc := cX2_readParam) (maxL := 7) (ret := none) (by decide) rfl ?_
  intro p e s m args below meth c s₁ B hml hv
  obtain ⟨rfl, hsz, hP, hK, hD0⟩ := hv
  have hx := B.exec
  have hb := B.bytes
  have hr := B.returns
  have hts := atoms_spec (ws := (.code yX2_readParam cX2_readParam 7 none :: lw_g)) B.pre
  have hown : s.vm.findClass RX2 = some m.cls := findClass_of_methodNamed B.named
  have hlocks := B.notSynchronized
  subst hsz
  have g : G3 (dC, dI) L kd tys s f0 [(5, 4), (6, 3), (8, 6), (8, 8), (8, 9)] [132, 134, 135] f0 s.heap [] [(2, 0, a0_, .ref q0_), (2, 1, a0_, .ref q1_), (2, 5, a0_, .ref q2_), (5, 1, q1_, .ref q3_), (8, 8, q0_, .int y0_)] := G3.start hP hD0 hWT hfx
  have hl := lv_entry ([.ref a0_]) (n := 7) (Nat.le_of_ble_eq_true rfl)
  rw [lg_entry_eq]
  generalize (lg_sl ([.ref a0_]) ++ List.replicate (7 - (lg_sl ([.ref a0_])).length) Slot.unset).toArray = ls at hl ⊢
  have hl : lv_has ls 7 [(0, .ref a0_)] := hl
  refine W_q (fun Q hQ => ?_)
  refine lv_aload_n hx hb dX2_readParam_0 rfl (lv_at hl 0 rfl) ?_
  refine g_getk (C := RX2) (T := TX2) (N := 16) hx hb hts (mc_ inX2) hown hK g rfl 0 (by decide) rfl (hts _ (List.mem_cons_of_mem _ t_416)) (fun _ h9 => h9) 0 rfl dX2_readParam_1 ?_
  refine g_calli (va_runV (As := []) (rest := []) ⟨hx, hb, hml, hown, hts⟩ (r_X8_place l dC dI L kd tys f0 s.heap.size g.2.2.2.1 q0_ mq0_ kq0_) (cwV 0 hts (gV_ t_1110 t_1111 t_1112 t_184 t_1113) rfl rfl rfl (by decide +kernel) ⟨(Nat.le_of_ble_eq_true rfl), (Nat.le_of_ble_eq_true rfl)⟩) (pre3V g hK mq0_ kq0_ (by decide) (q := (RX8, TX8, 10)) rfl) rfl rfl hl.1 rfl (lv_room (Nat.le_of_ble_eq_true rfl)) dX2_readParam_4 ⟨(Nat.le_of_ble_eq_true rfl), (Nat.le_of_ble_eq_true rfl)⟩) g hK (by decide) (by decide) (fx' := [(2, 0, a0_, .ref q0_), (2, 1, a0_, .ref q1_), (2, 5, a0_, .ref q2_), (5, 1, q1_, .ref q3_), (8, 8, q0_, .int y0_)]) rfl (fun r_1 fr_1 H locs hp hMr_1 g => ?_)
  refine lv_istore_n (lv' := [(1, .int r_1), (0, .ref a0_)]) hx hb dX2_readParam_7 rfl hl (by decide) rfl (fun ls hl => ?_)
  refine lv_aload_n hx hb dX2_readParam_8 rfl (lv_at hl 1 rfl) ?_
  refine g_getk (C := RX2) (T := TX2) (N := 16) hx hb hts (mc_ inX2) hown hK g rfl 0 (by decide) rfl (hts _ (List.mem_cons_of_mem _ t_416)) (fun _ h9 => h9) 0 rfl dX2_readParam_9 ?_
  refine g_calll (va_runV (As := []) (rest := []) ⟨hx, hb, hml, hown, hts⟩ (r_X8_value l dC dI L kd tys fr_1 H.size g.2.2.2.1 q0_ mq0_ kq0_) (cwV 0 hts (gV_ t_1114 t_1115 t_1116 t_184 t_1117) rfl rfl rfl (by decide +kernel) ⟨(Nat.le_of_ble_eq_true rfl), (Nat.le_of_ble_eq_true rfl)⟩) (pre3V g hK mq0_ kq0_ (by decide) (q := (RX8, TX8, 10)) rfl) rfl rfl hl.1 rfl (lv_room (Nat.le_of_ble_eq_true rfl)) dX2_readParam_12 ⟨(Nat.le_of_ble_eq_true rfl), (Nat.le_of_ble_eq_true rfl)⟩) g hK (by decide) (by decide) (fx' := [(2, 0, a0_, .ref q0_), (2, 1, a0_, .ref q1_), (2, 5, a0_, .ref q2_), (5, 1, q1_, .ref q3_), (8, 8, q0_, .int y0_)]) rfl (fun r_2 fr_2 H locs hp hMr_2 g => ?_)
  refine lv_lstore_n (lv' := [(2, .long r_2), (1, .int r_1), (0, .ref a0_)]) hx hb dX2_readParam_15 rfl hl (by decide) rfl (fun ls hl => ?_)
  refine lv_aload_n hx hb dX2_readParam_16 rfl (lv_at hl 2 rfl) ?_
  refine g_getk (C := RX2) (T := TX2) (N := 16) hx hb hts (mc_ inX2) hown hK g rfl 5 (by decide) rfl (hts _ (List.mem_cons_of_mem _ t_421)) (fun _ h9 => h9) 2 rfl dX2_readParam_17 ?_
  refine g_geti (C := RX6) (T := TX6) (N := 13) hx hb hts (mc_ inX6) hown hK g mq2_ kq2_ (by decide) rfl 3 (by decide) rfl (hts _ (List.mem_cons_of_mem _ t_568)) (fun _ h9 => h9) rfl dX2_readParam_20 (fun x_3 bx_3 g => ?_)
  refine lv_istore (lv' := [(4, .int x_3), (2, .long r_2), (1, .int r_1), (0, .ref a0_)]) hx hb dX2_readParam_23 hl (by decide) rfl (fun ls hl => ?_)
  refine lv_aload_n hx hb dX2_readParam_25 rfl (lv_at hl 3 rfl) ?_
  refine g_getk (C := RX2) (T := TX2) (N := 16) hx hb hts (mc_ inX2) hown hK g rfl 0 (by decide) rfl (hts _ (List.mem_cons_of_mem _ t_416)) (fun _ h9 => h9) 1 rfl dX2_readParam_26 ?_
  refine g_calli (va_runV (As := []) (rest := []) ⟨hx, hb, hml, hown, hts⟩ (r_X8_kind l dC dI L kd tys fr_2 H.size g.2.2.2.1 q0_ mq0_ kq0_) (cwV 0 hts (gV_ t_1118 t_1119 t_1120 t_184 t_1121) rfl rfl rfl (by decide +kernel) ⟨(Nat.le_of_ble_eq_true rfl), (Nat.le_of_ble_eq_true rfl)⟩) (pre3V g hK mq0_ kq0_ (by decide) (q := (RX8, TX8, 10)) rfl) rfl rfl hl.1 rfl (lv_room (Nat.le_of_ble_eq_true rfl)) dX2_readParam_29 ⟨(Nat.le_of_ble_eq_true rfl), (Nat.le_of_ble_eq_true rfl)⟩) g hK (by decide) (by decide) (fx' := [(6, 3, q2_, .int x_3), (2, 0, a0_, .ref q0_), (2, 1, a0_, .ref q1_), (2, 5, a0_, .ref q2_), (5, 1, q1_, .ref q3_), (8, 8, q0_, .int y0_)]) rfl (fun r_4 fr_4 H locs hp hMr_4 g => ?_)
  refine lv_iconst (v := 3) hx hb dX2_readParam_32 (by decide) ?_
  have kb_3 : bd 3 3 (3 : Int32) := ⟨by decide, by decide⟩
  refine lv_icmp_eq (tgt := 48) hx hb dX2_readParam_33 (by decide) (fun c_5 => ?_) (fun c_5 => ?_)
  · have fc_5 := eq_f c_5
    have b_6 : bd 3 3 r_4 := eqX fc_5 (bdT r_4) kb_3 (by decide)
    refine lv_aload_n hx hb dX2_readParam_48 rfl (lv_at hl 3 rfl) ?_
    refine g_getk (C := RX2) (T := TX2) (N := 16) hx hb hts (mc_ inX2) hown hK g rfl 1 (by decide) rfl (hts _ (List.mem_cons_of_mem _ t_417)) (fun _ h9 => h9) 2 rfl dX2_readParam_49 ?_
    refine lv_lload_n hx hb dX2_readParam_52 rfl (lv_at hl 1 rfl) ?_
    refine g_calli (va_runV (As := [.long r_2]) (rest := []) ⟨hx, hb, hml, hown, hts⟩ (r_X5_placeNamed l dC dI L kd tys fr_4 H.size g.2.2.2.1 q1_ mq1_ kq1_ r_2 q3_ mq3_ kq3_ (g.fcts [4] rfl)) (cwV 1 hts (gV_ t_1317 t_1252 t_1253 t_189 t_1254) rfl rfl rfl (by decide +kernel) ⟨(Nat.le_of_ble_eq_true rfl), (Nat.le_of_ble_eq_true rfl)⟩) (pre3V g hK mq1_ kq1_ (by decide) (q := (RX5, TX5, 9)) rfl) rfl rfl hl.1 rfl (lv_room (Nat.le_of_ble_eq_true rfl)) dX2_readParam_53 ⟨(Nat.le_of_ble_eq_true rfl), (Nat.le_of_ble_eq_true rfl)⟩) g hK (by decide) (by decide) (fx' := [(6, 3, q2_, .int x_3), (2, 0, a0_, .ref q0_), (2, 1, a0_, .ref q1_), (2, 5, a0_, .ref q2_), (5, 1, q1_, .ref q3_), (8, 8, q0_, .int y0_)]) rfl (fun r_7 fr_7 H locs hp hMr_7 g => ?_)
    obtain ⟨h_8, -⟩ := hp
    refine lv_iconst (v := (-1)) hx hb dX2_readParam_56 (by decide) ?_
    have kb_m1 : bd (-1) (-1) ((-1) : Int32) := ⟨by decide, by decide⟩
    refine lv_icmp_eq (tgt := 72) hx hb dX2_readParam_57 (by decide) (fun c_9 => ?_) (fun c_9 => ?_)
    · have fc_9 := eq_f c_9
      have b_10 : bd (-1) (-1) r_7 := eqX fc_9 h_8 kb_m1 (by decide)
      refine lv_iload hx hb dX2_readParam_72 (lv_at hl 0 rfl) ?_
      refine lv_iconst (v := 3) hx hb dX2_readParam_74 (by decide) ?_
      refine lv_icmp_lt (tgt := 87) hx hb dX2_readParam_75 (by decide) (fun c_11 => ?_) (fun c_11 => ?_)
      · have fc_11 := lt_f c_11
        have b_12 : bd 0 2 x_3 := ltL fc_11 bx_3 kb_3 (by decide)
        refine lv_aload_n hx hb dX2_readParam_87 rfl (lv_at hl 3 rfl) ?_
        refine g_getk (C := RX2) (T := TX2) (N := 16) hx hb hts (mc_ inX2) hown hK g rfl 0 (by decide) rfl (hts _ (List.mem_cons_of_mem _ t_416)) (fun _ h9 => h9) 1 rfl dX2_readParam_88 ?_
        refine g_callv (va_runV (As := []) (rest := []) ⟨hx, hb, hml, hown, hts⟩ (r_X8_next l dC dI L kd tys fr_7 H.size g.2.2.2.1 q0_ mq0_ kq0_) (cwV 0 hts (gV_ t_1131 t_1103 t_1104 t_184 t_1105) rfl rfl rfl (by decide +kernel) ⟨(Nat.le_of_ble_eq_true rfl), (Nat.le_of_ble_eq_true rfl)⟩) (pre3V g hK mq0_ kq0_ (by decide) (q := (RX8, TX8, 10)) rfl) rfl rfl hl.1 rfl (lv_room (Nat.le_of_ble_eq_true rfl)) dX2_readParam_91 ⟨(Nat.le_of_ble_eq_true rfl), (Nat.le_of_ble_eq_true rfl)⟩) g hK (by decide) (by decide) (fx' := [(6, 3, q2_, .int x_3), (2, 0, a0_, .ref q0_), (2, 1, a0_, .ref q1_), (2, 5, a0_, .ref q2_), (5, 1, q1_, .ref q3_), (8, 8, q0_, .int y0_)]) rfl (fun fr_13 H locs hp hMr_13 g => ?_)
        obtain ⟨x_14, h_15, hF_16⟩ := hp
        have g := g.more hF_16
        refine lv_aload_n hx hb dX2_readParam_94 rfl (lv_at hl 3 rfl) ?_
        refine g_getk (C := RX2) (T := TX2) (N := 16) hx hb hts (mc_ inX2) hown hK g rfl 0 (by decide) rfl (hts _ (List.mem_cons_of_mem _ t_416)) (fun _ h9 => h9) 2 rfl dX2_readParam_95 ?_
        refine lv_bipush (v := 15) hx hb dX2_readParam_98 (by decide) ?_
        refine g_callv (va_runV (As := [.int 15]) (rest := []) ⟨hx, hb, hml, hown, hts⟩ (r_X8_take l dC dI L kd tys fr_13 H.size g.2.2.2.1 q0_ mq0_ kq0_ 15 y0_ by0_ (g.fcts [6] rfl)) (cwV 1 hts (gV_ t_1098 t_1099 t_1100 t_184 t_1101) rfl rfl rfl (by decide +kernel) ⟨(Nat.le_of_ble_eq_true rfl), (Nat.le_of_ble_eq_true rfl)⟩) (pre3V g hK mq0_ kq0_ (by decide) (q := (RX8, TX8, 10)) rfl) rfl rfl hl.1 rfl (lv_room (Nat.le_of_ble_eq_true rfl)) dX2_readParam_100 ⟨(Nat.le_of_ble_eq_true rfl), (Nat.le_of_ble_eq_true rfl)⟩) g hK (by decide) (by decide) (fx' := [(6, 3, q2_, .int x_3), (2, 0, a0_, .ref q0_), (2, 1, a0_, .ref q1_), (2, 5, a0_, .ref q2_), (5, 1, q1_, .ref q3_)]) rfl (fun fr_17 H locs hp hMr_17 g => ?_)
        rcases hp with ⟨x_18, h_19, hF_20⟩ | ⟨x_21, h_22, hF_23⟩
        · have g := g.more hF_20
          refine lv_aload_n hx hb dX2_readParam_103 rfl (lv_at hl 3 rfl) ?_
          refine lv_ldc (v := (-2147483648)) hx hb hown (hts _ (List.mem_cons_of_mem _ t_1159)) dX2_readParam_104 ?_
          refine g_calli (va_runV (As := [.int (-2147483648)]) (rest := []) ⟨hx, hb, hml, hown, hts⟩ (r_X2_readNumber l dC dI L kd tys fr_17 H.size g.2.2.2.1 a0_ ma0_ ka0_ (-2147483648) q0_ mq0_ kq0_ y0_ by0_ (g.fcts [3, 1] rfl)) (cwV 1 hts (gV_ t_1160 t_1162 t_11 t_183 t_1163) rfl rfl rfl (by decide +kernel) ⟨(Nat.le_of_ble_eq_true rfl), (Nat.le_of_ble_eq_true rfl)⟩) (pre3V g hK ma0_ ka0_ (by decide) (q := (RX2, TX2, 16)) rfl) rfl rfl hl.1 rfl (lv_room (Nat.le_of_ble_eq_true rfl)) dX2_readParam_106 ⟨(Nat.le_of_ble_eq_true rfl), (Nat.le_of_ble_eq_true rfl)⟩) g hK (by decide) (by decide) (fx' := [(6, 3, q2_, .int x_3), (2, 0, a0_, .ref q0_), (2, 1, a0_, .ref q1_), (2, 5, a0_, .ref q2_), (5, 1, q1_, .ref q3_)]) rfl (fun r_24 fr_24 H locs hp hMr_24 g => ?_)
          rcases hp with ⟨x_25, h_26, hF_27⟩ | ⟨x_28, h_29, hF_30⟩
          · have g := g.more hF_27
            refine lv_istore (lv' := [(5, .int r_24), (4, .int x_3), (2, .long r_2), (1, .int r_1), (0, .ref a0_)]) hx hb dX2_readParam_109 hl (by decide) rfl (fun ls hl => ?_)
            refine lv_aload_n hx hb dX2_readParam_111 rfl (lv_at hl 4 rfl) ?_
            refine g_getk (C := RX2) (T := TX2) (N := 16) hx hb hts (mc_ inX2) hown hK g rfl 0 (by decide) rfl (hts _ (List.mem_cons_of_mem _ t_416)) (fun _ h9 => h9) 3 rfl dX2_readParam_112 ?_
            refine lv_sipush (v := 200) hx hb dX2_readParam_115 (by decide) ?_
            refine g_callv (va_runV (As := [.int 200]) (rest := []) ⟨hx, hb, hml, hown, hts⟩ (r_X8_take l dC dI L kd tys fr_24 H.size g.2.2.2.1 q0_ mq0_ kq0_ 200 y0_ by0_ (g.fcts [1] rfl)) (cwV 1 hts (gV_ t_1098 t_1099 t_1100 t_184 t_1101) rfl rfl rfl (by decide +kernel) ⟨(Nat.le_of_ble_eq_true rfl), (Nat.le_of_ble_eq_true rfl)⟩) (pre3V g hK mq0_ kq0_ (by decide) (q := (RX8, TX8, 10)) rfl) rfl rfl hl.1 rfl (lv_room (Nat.le_of_ble_eq_true rfl)) dX2_readParam_118 ⟨(Nat.le_of_ble_eq_true rfl), (Nat.le_of_ble_eq_true rfl)⟩) g hK (by decide) (by decide) (fx' := [(6, 3, q2_, .int x_3), (2, 0, a0_, .ref q0_), (2, 1, a0_, .ref q1_), (2, 5, a0_, .ref q2_), (5, 1, q1_, .ref q3_)]) rfl (fun fr_31 H locs hp hMr_31 g => ?_)
            rcases hp with ⟨x_32, h_33, hF_34⟩ | ⟨x_35, h_36, hF_37⟩
            · have g := g.more hF_34
              refine lv_aload_n hx hb dX2_readParam_121 rfl (lv_at hl 4 rfl) ?_
              refine lv_iload hx hb dX2_readParam_122 (lv_at hl 0 rfl) ?_
              refine g_calli (va_runV (As := [.int r_24]) (rest := []) ⟨hx, hb, hml, hown, hts⟩ (r_X2_readNumber l dC dI L kd tys fr_31 H.size g.2.2.2.1 a0_ ma0_ ka0_ r_24 q0_ mq0_ kq0_ y0_ by0_ (g.fcts [3, 1] rfl)) (cwV 1 hts (gV_ t_1160 t_1162 t_11 t_183 t_1163) rfl rfl rfl (by decide +kernel) ⟨(Nat.le_of_ble_eq_true rfl), (Nat.le_of_ble_eq_true rfl)⟩) (pre3V g hK ma0_ ka0_ (by decide) (q := (RX2, TX2, 16)) rfl) rfl rfl hl.1 rfl (lv_room (Nat.le_of_ble_eq_true rfl)) dX2_readParam_124 ⟨(Nat.le_of_ble_eq_true rfl), (Nat.le_of_ble_eq_true rfl)⟩) g hK (by decide) (by decide) (fx' := [(6, 3, q2_, .int x_3), (2, 0, a0_, .ref q0_), (2, 1, a0_, .ref q1_), (2, 5, a0_, .ref q2_), (5, 1, q1_, .ref q3_)]) rfl (fun r_38 fr_38 H locs hp hMr_38 g => ?_)
              rcases hp with ⟨x_39, h_40, hF_41⟩ | ⟨x_42, h_43, hF_44⟩
              · have g := g.more hF_41
                refine lv_istore (lv' := [(6, .int r_38), (5, .int r_24), (4, .int x_3), (2, .long r_2), (1, .int r_1), (0, .ref a0_)]) hx hb dX2_readParam_127 hl (by decide) rfl (fun ls hl => ?_)
                refine lv_aload_n hx hb dX2_readParam_129 rfl (lv_at hl 5 rfl) ?_
                refine g_getk (C := RX2) (T := TX2) (N := 16) hx hb hts (mc_ inX2) hown hK g rfl 0 (by decide) rfl (hts _ (List.mem_cons_of_mem _ t_416)) (fun _ h9 => h9) 3 rfl dX2_readParam_130 ?_
                refine g_getk (C := RX8) (T := TX8) (N := 10) hx hb hts (mc_ inX8) hown hK g rfl 8 (by decide) rfl (hts _ (List.mem_cons_of_mem _ t_294)) (fun _ h9 => h9) 1 rfl dX2_readParam_133 ?_
                have kb_0 : bd 0 0 (0 : Int32) := ⟨by decide, by decide⟩
                refine lv_if_ne (tgt := 202) hx hb dX2_readParam_136 (by decide) (fun c_45 => ?_) (fun c_45 => ?_)
                · have fc_45 := neq_f c_45
                  have b_46 : bd 1 (-1) y0_ := neX fc_45 by0_ kb_0 (by decide)
                  exact bd_no b_46 (by decide)
                · have fc_45 := eq_f c_45
                  refine lv_iload hx hb dX2_readParam_139 (lv_at hl 2 rfl) ?_
                  refine lv_iconst (v := 3) hx hb dX2_readParam_141 (by decide) ?_
                  refine lv_icmp_ge (tgt := 202) hx hb dX2_readParam_142 (by decide) (fun c_47 => ?_) (fun c_47 => ?_)
                  · have fc_47 := le_f c_47
                    have b_48 : bd 3 2 (3 : Int32) := leL fc_47 kb_3 b_12 (by decide)
                    exact bd_no (eqX rfl b_48 kb_3 (lo := 3) (hi := 2) (by decide)) (by decide)
                  · have fc_47 := nle_f c_47
                    refine lv_aload_n hx hb dX2_readParam_145 rfl (lv_at hl 5 rfl) ?_
                    refine g_getk (C := RX2) (T := TX2) (N := 16) hx hb hts (mc_ inX2) hown hK g rfl 1 (by decide) rfl (hts _ (List.mem_cons_of_mem _ t_417)) (fun _ h9 => h9) 4 rfl dX2_readParam_146 ?_
                    refine g_getr (K := 132) (C := RX5) (T := TX5) (N := 9) hx hb hts (mc_ inX5) hown hK g mq1_ kq1_ (by decide) rfl 3 (by decide) rfl (hts _ (List.mem_cons_of_mem _ t_335)) (fun _ h9 => h9) rfl dX2_readParam_149 (fun a_49 ma_49 ka_49 g => ?_)
                    refine lv_iload hx hb dX2_readParam_152 (lv_at hl 2 rfl) ?_
                    refine lv_lload_n hx hb dX2_readParam_154 rfl (lv_at hl 3 rfl) ?_
                    refine g_last hx hb hK g ma_49 ka_49 (by decide) rfl (in_bd b_12 (by decide)) (by decide) dX2_readParam_155 (fun f H locs hM_50 g => ?_)
                    refine lv_aload_n hx hb dX2_readParam_156 rfl (lv_at hl 5 rfl) ?_
                    refine g_getk (C := RX2) (T := TX2) (N := 16) hx hb hts (mc_ inX2) hown hK g rfl 1 (by decide) rfl (hts _ (List.mem_cons_of_mem _ t_417)) (fun _ h9 => h9) 5 rfl dX2_readParam_157 ?_
                    refine lv_iload hx hb dX2_readParam_160 (lv_at hl 2 rfl) ?_
                    refine lv_iconst (v := 1) hx hb dX2_readParam_162 (by decide) ?_
                    have kb_1 : bd 1 1 (1 : Int32) := ⟨by decide, by decide⟩
                    refine lv_iadd hx hb dX2_readParam_163 ?_
                    refine lv_topi (fun y_51 ey_51 => ?_)
                    have ty_51 := add_bd ey_51 b_12 kb_1 (by decide)
                    have b_52 : bd 1 3 y_51 := add_rg ty_51 b_12 kb_1 (by decide)
                    refine g_put (C := RX5) (T := TX5) (N := 9) hx hb hts (mc_ inX5) tyX5 tyX5_ok nmX5 hown hK g mq1_ kq1_ (by decide) rfl 4 (by decide) (hts _ (List.mem_cons_of_mem _ t_337)) (fun _ h9 => h9) rfl rfl (okV_i (bd_sub b_52 (by decide))) rfl rfl (by decide) (Or.inr (Or.inl (by decide))) (fx' := [(5, 3, q1_, .ref a_49), (8, 6, q0_, .int x_39), (8, 8, q0_, .int y0_), (6, 3, q2_, .int x_3), (2, 0, a0_, .ref q0_), (2, 1, a0_, .ref q1_), (2, 5, a0_, .ref q2_), (5, 1, q1_, .ref q3_)]) rfl dX2_readParam_164 (fun f H locs hM_53 g => ?_)
                    refine lv_aload_n hx hb dX2_readParam_167 rfl (lv_at hl 5 rfl) ?_
                    refine g_getk (C := RX2) (T := TX2) (N := 16) hx hb hts (mc_ inX2) hown hK g rfl 5 (by decide) rfl (hts _ (List.mem_cons_of_mem _ t_421)) (fun _ h9 => h9) 7 rfl dX2_readParam_168 ?_
                    refine g_getr (K := 134) (C := RX6) (T := TX6) (N := 13) hx hb hts (mc_ inX6) hown hK g mq2_ kq2_ (by decide) rfl 4 (by decide) rfl (hts _ (List.mem_cons_of_mem _ t_572)) (fun _ h9 => h9) rfl dX2_readParam_171 (fun a_54 ma_54 ka_54 g => ?_)
                    refine lv_iload hx hb dX2_readParam_174 (lv_at hl 2 rfl) ?_
                    refine lv_iload hx hb dX2_readParam_176 (lv_at hl 1 rfl) ?_
                    refine g_iast hx hb hK g ma_54 ka_54 (by decide) rfl (in_bd b_12 (by decide)) (bdT r_24) (by decide) dX2_readParam_178 (fun f H locs hM_55 g => ?_)
                    refine lv_aload_n hx hb dX2_readParam_179 rfl (lv_at hl 5 rfl) ?_
                    refine g_getk (C := RX2) (T := TX2) (N := 16) hx hb hts (mc_ inX2) hown hK g rfl 5 (by decide) rfl (hts _ (List.mem_cons_of_mem _ t_421)) (fun _ h9 => h9) 8 rfl dX2_readParam_180 ?_
                    refine g_getr (K := 135) (C := RX6) (T := TX6) (N := 13) hx hb hts (mc_ inX6) hown hK g mq2_ kq2_ (by decide) rfl 5 (by decide) rfl (hts _ (List.mem_cons_of_mem _ t_575)) (fun _ h9 => h9) rfl dX2_readParam_183 (fun a_56 ma_56 ka_56 g => ?_)
                    refine lv_iload hx hb dX2_readParam_186 (lv_at hl 2 rfl) ?_
                    refine lv_iload hx hb dX2_readParam_188 (lv_at hl 0 rfl) ?_
                    refine g_iast hx hb hK g ma_56 ka_56 (by decide) rfl (in_bd b_12 (by decide)) (bdT r_38) (by decide) dX2_readParam_190 (fun f H locs hM_57 g => ?_)
                    refine lv_aload_n hx hb dX2_readParam_191 rfl (lv_at hl 5 rfl) ?_
                    refine g_getk (C := RX2) (T := TX2) (N := 16) hx hb hts (mc_ inX2) hown hK g rfl 5 (by decide) rfl (hts _ (List.mem_cons_of_mem _ t_421)) (fun _ h9 => h9) 9 rfl dX2_readParam_192 ?_
                    refine lv_iload hx hb dX2_readParam_195 (lv_at hl 2 rfl) ?_
                    refine lv_iconst (v := 1) hx hb dX2_readParam_197 (by decide) ?_
                    refine lv_iadd hx hb dX2_readParam_198 ?_
                    refine lv_topi (fun y_58 ey_58 => ?_)
                    obtain rfl : y_51 = y_58 := ey_51.trans ey_58.symm
                    refine g_put (C := RX6) (T := TX6) (N := 13) hx hb hts (mc_ inX6) tyX6 tyX6_ok nmX6 hown hK g mq2_ kq2_ (by decide) rfl 3 (by decide) (hts _ (List.mem_cons_of_mem _ t_568)) (fun _ h9 => h9) rfl rfl (okV_i (bd_sub b_52 (by decide))) rfl rfl (by decide) (Or.inr (Or.inl (by decide))) (fx' := [(6, 5, q2_, .ref a_56), (6, 4, q2_, .ref a_54), (5, 4, q1_, .int y_51), (5, 3, q1_, .ref a_49), (8, 6, q0_, .int x_39), (8, 8, q0_, .int y0_), (2, 0, a0_, .ref q0_), (2, 1, a0_, .ref q1_), (2, 5, a0_, .ref q2_), (5, 1, q1_, .ref q3_)]) rfl dX2_readParam_199 (fun f H locs hM_59 g => ?_)
                    subst hQ
                    exact W.vret hx hb hr (fun t ht hW => ⟨⟨_, rfl, Or.inl ⟨y_51, b_52, y_51, b_52, x_39, h_40, (g.fcts [0, 3, 5, 6] rfl)⟩, q3_of g hK ht hW⟩, g.2.2.1.F ht⟩) g.2.2.1.2.2 dX2_readParam_202
              · have g := g.more hF_44
                refine lv_istore (lv' := [(6, .int r_38), (5, .int r_24), (4, .int x_3), (2, .long r_2), (1, .int r_1), (0, .ref a0_)]) hx hb dX2_readParam_127 hl (by decide) rfl (fun ls hl => ?_)
                refine lv_aload_n hx hb dX2_readParam_129 rfl (lv_at hl 5 rfl) ?_
                refine g_getk (C := RX2) (T := TX2) (N := 16) hx hb hts (mc_ inX2) hown hK g rfl 0 (by decide) rfl (hts _ (List.mem_cons_of_mem _ t_416)) (fun _ h9 => h9) 3 rfl dX2_readParam_130 ?_
                refine g_getk (C := RX8) (T := TX8) (N := 10) hx hb hts (mc_ inX8) hown hK g rfl 8 (by decide) rfl (hts _ (List.mem_cons_of_mem _ t_294)) (fun _ h9 => h9) 1 rfl dX2_readParam_133 ?_
                have kb_0 : bd 0 0 (0 : Int32) := ⟨by decide, by decide⟩
                refine lv_if_ne (tgt := 202) hx hb dX2_readParam_136 (by decide) (fun c_60 => ?_) (fun c_60 => ?_)
                · have fc_60 := neq_f c_60
                  subst hQ
                  exact W.vret hx hb hr (fun t ht hW => ⟨⟨_, rfl, Or.inr (⟨x_42, h_43, (g.fcts [0, 1] rfl)⟩), q3_of g hK ht hW⟩, g.2.2.1.F ht⟩) g.2.2.1.2.2 dX2_readParam_202
                · have fc_60 := eq_f c_60
                  have b_61 : bd 1 0 x_42 := eqX fc_60 h_43 kb_0 (by decide)
                  exact bd_no b_61 (by decide)
            · have g := g.more hF_37
              refine lv_aload_n hx hb dX2_readParam_121 rfl (lv_at hl 4 rfl) ?_
              refine lv_iload hx hb dX2_readParam_122 (lv_at hl 0 rfl) ?_
              have kb_1201 : bd 1201 1201 (1201 : Int32) := ⟨by decide, by decide⟩
              refine g_calli (va_runV (As := [.int r_24]) (rest := []) ⟨hx, hb, hml, hown, hts⟩ (r_X2_readNumber_2 l dC dI L kd tys fr_31 H.size g.2.2.2.1 a0_ ma0_ ka0_ r_24 q0_ mq0_ kq0_ 1201 kb_1201 x_35 h_36 (g.fcts [3, 0, 1] rfl)) (cwV 1 hts (gV_ t_1160 t_1162 t_11 t_183 t_1163) rfl rfl rfl (by decide +kernel) ⟨(Nat.le_of_ble_eq_true rfl), (Nat.le_of_ble_eq_true rfl)⟩) (pre3V g hK ma0_ ka0_ (by decide) (q := (RX2, TX2, 16)) rfl) rfl rfl hl.1 rfl (lv_room (Nat.le_of_ble_eq_true rfl)) dX2_readParam_124 ⟨(Nat.le_of_ble_eq_true rfl), (Nat.le_of_ble_eq_true rfl)⟩) g hK (by decide) (by decide) (fx' := [(8, 8, q0_, .int x_35), (6, 3, q2_, .int x_3), (2, 0, a0_, .ref q0_), (2, 1, a0_, .ref q1_), (2, 5, a0_, .ref q2_), (5, 1, q1_, .ref q3_)]) rfl (fun r_62 fr_62 H locs hp hMr_62 g => ?_)
              have hF_63 := hp
              have g := g.more hF_63
              refine lv_istore (lv' := [(6, .int r_62), (5, .int r_24), (4, .int x_3), (2, .long r_2), (1, .int r_1), (0, .ref a0_)]) hx hb dX2_readParam_127 hl (by decide) rfl (fun ls hl => ?_)
              refine lv_aload_n hx hb dX2_readParam_129 rfl (lv_at hl 5 rfl) ?_
              refine g_getk (C := RX2) (T := TX2) (N := 16) hx hb hts (mc_ inX2) hown hK g rfl 0 (by decide) rfl (hts _ (List.mem_cons_of_mem _ t_416)) (fun _ h9 => h9) 3 rfl dX2_readParam_130 ?_
              refine g_getk (C := RX8) (T := TX8) (N := 10) hx hb hts (mc_ inX8) hown hK g rfl 8 (by decide) rfl (hts _ (List.mem_cons_of_mem _ t_294)) (fun _ h9 => h9) 1 rfl dX2_readParam_133 ?_
              have kb_0 : bd 0 0 (0 : Int32) := ⟨by decide, by decide⟩
              refine lv_if_ne (tgt := 202) hx hb dX2_readParam_136 (by decide) (fun c_64 => ?_) (fun c_64 => ?_)
              · have fc_64 := neq_f c_64
                subst hQ
                exact W.vret hx hb hr (fun t ht hW => ⟨⟨_, rfl, Or.inr (⟨x_35, h_36, (g.fcts [0, 1] rfl)⟩), q3_of g hK ht hW⟩, g.2.2.1.F ht⟩) g.2.2.1.2.2 dX2_readParam_202
              · have fc_64 := eq_f c_64
                have b_65 : bd 1 0 x_35 := eqX fc_64 h_36 kb_0 (by decide)
                exact bd_no b_65 (by decide)
          · have g := g.more hF_30
            refine lv_istore (lv' := [(5, .int r_24), (4, .int x_3), (2, .long r_2), (1, .int r_1), (0, .ref a0_)]) hx hb dX2_readParam_109 hl (by decide) rfl (fun ls hl => ?_)
            refine lv_aload_n hx hb dX2_readParam_111 rfl (lv_at hl 4 rfl) ?_
            refine g_getk (C := RX2) (T := TX2) (N := 16) hx hb hts (mc_ inX2) hown hK g rfl 0 (by decide) rfl (hts _ (List.mem_cons_of_mem _ t_416)) (fun _ h9 => h9) 3 rfl dX2_readParam_112 ?_
            refine lv_sipush (v := 200) hx hb dX2_readParam_115 (by decide) ?_
            have kb_1201 : bd 1201 1201 (1201 : Int32) := ⟨by decide, by decide⟩
            refine g_callv (va_runV (As := [.int 200]) (rest := []) ⟨hx, hb, hml, hown, hts⟩ (r_X8_take_2 l dC dI L kd tys fr_24 H.size g.2.2.2.1 q0_ mq0_ kq0_ 200 1201 kb_1201 x_28 h_29 (g.fcts [0, 1] rfl)) (cwV 1 hts (gV_ t_1098 t_1099 t_1100 t_184 t_1101) rfl rfl rfl (by decide +kernel) ⟨(Nat.le_of_ble_eq_true rfl), (Nat.le_of_ble_eq_true rfl)⟩) (pre3V g hK mq0_ kq0_ (by decide) (q := (RX8, TX8, 10)) rfl) rfl rfl hl.1 rfl (lv_room (Nat.le_of_ble_eq_true rfl)) dX2_readParam_118 ⟨(Nat.le_of_ble_eq_true rfl), (Nat.le_of_ble_eq_true rfl)⟩) g hK (by decide) (by decide) (fx' := [(8, 8, q0_, .int x_28), (6, 3, q2_, .int x_3), (2, 0, a0_, .ref q0_), (2, 1, a0_, .ref q1_), (2, 5, a0_, .ref q2_), (5, 1, q1_, .ref q3_)]) rfl (fun fr_66 H locs hp hMr_66 g => ?_)
            obtain ⟨x_67, h_68, hF_69⟩ := hp
            have g := g.more hF_69
            refine lv_aload_n hx hb dX2_readParam_121 rfl (lv_at hl 4 rfl) ?_
            refine lv_iload hx hb dX2_readParam_122 (lv_at hl 0 rfl) ?_
            refine g_calli (va_runV (As := [.int r_24]) (rest := []) ⟨hx, hb, hml, hown, hts⟩ (r_X2_readNumber_2 l dC dI L kd tys fr_66 H.size g.2.2.2.1 a0_ ma0_ ka0_ r_24 q0_ mq0_ kq0_ x_67 h_68 x_28 h_29 (g.fcts [3, 0, 1] rfl)) (cwV 1 hts (gV_ t_1160 t_1162 t_11 t_183 t_1163) rfl rfl rfl (by decide +kernel) ⟨(Nat.le_of_ble_eq_true rfl), (Nat.le_of_ble_eq_true rfl)⟩) (pre3V g hK ma0_ ka0_ (by decide) (q := (RX2, TX2, 16)) rfl) rfl rfl hl.1 rfl (lv_room (Nat.le_of_ble_eq_true rfl)) dX2_readParam_124 ⟨(Nat.le_of_ble_eq_true rfl), (Nat.le_of_ble_eq_true rfl)⟩) g hK (by decide) (by decide) (fx' := [(8, 8, q0_, .int x_28), (6, 3, q2_, .int x_3), (2, 0, a0_, .ref q0_), (2, 1, a0_, .ref q1_), (2, 5, a0_, .ref q2_), (5, 1, q1_, .ref q3_)]) rfl (fun r_70 fr_70 H locs hp hMr_70 g => ?_)
            have hF_71 := hp
            have g := g.more hF_71
            refine lv_istore (lv' := [(6, .int r_70), (5, .int r_24), (4, .int x_3), (2, .long r_2), (1, .int r_1), (0, .ref a0_)]) hx hb dX2_readParam_127 hl (by decide) rfl (fun ls hl => ?_)
            refine lv_aload_n hx hb dX2_readParam_129 rfl (lv_at hl 5 rfl) ?_
            refine g_getk (C := RX2) (T := TX2) (N := 16) hx hb hts (mc_ inX2) hown hK g rfl 0 (by decide) rfl (hts _ (List.mem_cons_of_mem _ t_416)) (fun _ h9 => h9) 3 rfl dX2_readParam_130 ?_
            refine g_getk (C := RX8) (T := TX8) (N := 10) hx hb hts (mc_ inX8) hown hK g rfl 8 (by decide) rfl (hts _ (List.mem_cons_of_mem _ t_294)) (fun _ h9 => h9) 1 rfl dX2_readParam_133 ?_
            have kb_0 : bd 0 0 (0 : Int32) := ⟨by decide, by decide⟩
            refine lv_if_ne (tgt := 202) hx hb dX2_readParam_136 (by decide) (fun c_72 => ?_) (fun c_72 => ?_)
            · have fc_72 := neq_f c_72
              subst hQ
              exact W.vret hx hb hr (fun t ht hW => ⟨⟨_, rfl, Or.inr (⟨x_28, h_29, (g.fcts [0, 1] rfl)⟩), q3_of g hK ht hW⟩, g.2.2.1.F ht⟩) g.2.2.1.2.2 dX2_readParam_202
            · have fc_72 := eq_f c_72
              have b_73 : bd 1 0 x_28 := eqX fc_72 h_29 kb_0 (by decide)
              exact bd_no b_73 (by decide)
        · have g := g.more hF_23
          refine lv_aload_n hx hb dX2_readParam_103 rfl (lv_at hl 3 rfl) ?_
          refine lv_ldc (v := (-2147483648)) hx hb hown (hts _ (List.mem_cons_of_mem _ t_1159)) dX2_readParam_104 ?_
          have kb_1201 : bd 1201 1201 (1201 : Int32) := ⟨by decide, by decide⟩
          refine g_calli (va_runV (As := [.int (-2147483648)]) (rest := []) ⟨hx, hb, hml, hown, hts⟩ (r_X2_readNumber_2 l dC dI L kd tys fr_17 H.size g.2.2.2.1 a0_ ma0_ ka0_ (-2147483648) q0_ mq0_ kq0_ 1201 kb_1201 x_21 h_22 (g.fcts [3, 0, 1] rfl)) (cwV 1 hts (gV_ t_1160 t_1162 t_11 t_183 t_1163) rfl rfl rfl (by decide +kernel) ⟨(Nat.le_of_ble_eq_true rfl), (Nat.le_of_ble_eq_true rfl)⟩) (pre3V g hK ma0_ ka0_ (by decide) (q := (RX2, TX2, 16)) rfl) rfl rfl hl.1 rfl (lv_room (Nat.le_of_ble_eq_true rfl)) dX2_readParam_106 ⟨(Nat.le_of_ble_eq_true rfl), (Nat.le_of_ble_eq_true rfl)⟩) g hK (by decide) (by decide) (fx' := [(8, 8, q0_, .int x_21), (6, 3, q2_, .int x_3), (2, 0, a0_, .ref q0_), (2, 1, a0_, .ref q1_), (2, 5, a0_, .ref q2_), (5, 1, q1_, .ref q3_)]) rfl (fun r_74 fr_74 H locs hp hMr_74 g => ?_)
          have hF_75 := hp
          have g := g.more hF_75
          refine lv_istore (lv' := [(5, .int r_74), (4, .int x_3), (2, .long r_2), (1, .int r_1), (0, .ref a0_)]) hx hb dX2_readParam_109 hl (by decide) rfl (fun ls hl => ?_)
          refine lv_aload_n hx hb dX2_readParam_111 rfl (lv_at hl 4 rfl) ?_
          refine g_getk (C := RX2) (T := TX2) (N := 16) hx hb hts (mc_ inX2) hown hK g rfl 0 (by decide) rfl (hts _ (List.mem_cons_of_mem _ t_416)) (fun _ h9 => h9) 3 rfl dX2_readParam_112 ?_
          refine lv_sipush (v := 200) hx hb dX2_readParam_115 (by decide) ?_
          refine g_callv (va_runV (As := [.int 200]) (rest := []) ⟨hx, hb, hml, hown, hts⟩ (r_X8_take_2 l dC dI L kd tys fr_74 H.size g.2.2.2.1 q0_ mq0_ kq0_ 200 1201 kb_1201 x_21 h_22 (g.fcts [0, 1] rfl)) (cwV 1 hts (gV_ t_1098 t_1099 t_1100 t_184 t_1101) rfl rfl rfl (by decide +kernel) ⟨(Nat.le_of_ble_eq_true rfl), (Nat.le_of_ble_eq_true rfl)⟩) (pre3V g hK mq0_ kq0_ (by decide) (q := (RX8, TX8, 10)) rfl) rfl rfl hl.1 rfl (lv_room (Nat.le_of_ble_eq_true rfl)) dX2_readParam_118 ⟨(Nat.le_of_ble_eq_true rfl), (Nat.le_of_ble_eq_true rfl)⟩) g hK (by decide) (by decide) (fx' := [(8, 8, q0_, .int x_21), (6, 3, q2_, .int x_3), (2, 0, a0_, .ref q0_), (2, 1, a0_, .ref q1_), (2, 5, a0_, .ref q2_), (5, 1, q1_, .ref q3_)]) rfl (fun fr_76 H locs hp hMr_76 g => ?_)
          obtain ⟨x_77, h_78, hF_79⟩ := hp
          have g := g.more hF_79
          refine lv_aload_n hx hb dX2_readParam_121 rfl (lv_at hl 4 rfl) ?_
          refine lv_iload hx hb dX2_readParam_122 (lv_at hl 0 rfl) ?_
          refine g_calli (va_runV (As := [.int r_74]) (rest := []) ⟨hx, hb, hml, hown, hts⟩ (r_X2_readNumber_2 l dC dI L kd tys fr_76 H.size g.2.2.2.1 a0_ ma0_ ka0_ r_74 q0_ mq0_ kq0_ x_77 h_78 x_21 h_22 (g.fcts [3, 0, 1] rfl)) (cwV 1 hts (gV_ t_1160 t_1162 t_11 t_183 t_1163) rfl rfl rfl (by decide +kernel) ⟨(Nat.le_of_ble_eq_true rfl), (Nat.le_of_ble_eq_true rfl)⟩) (pre3V g hK ma0_ ka0_ (by decide) (q := (RX2, TX2, 16)) rfl) rfl rfl hl.1 rfl (lv_room (Nat.le_of_ble_eq_true rfl)) dX2_readParam_124 ⟨(Nat.le_of_ble_eq_true rfl), (Nat.le_of_ble_eq_true rfl)⟩) g hK (by decide) (by decide) (fx' := [(8, 8, q0_, .int x_21), (6, 3, q2_, .int x_3), (2, 0, a0_, .ref q0_), (2, 1, a0_, .ref q1_), (2, 5, a0_, .ref q2_), (5, 1, q1_, .ref q3_)]) rfl (fun r_80 fr_80 H locs hp hMr_80 g => ?_)
          have hF_81 := hp
          have g := g.more hF_81
          refine lv_istore (lv' := [(6, .int r_80), (5, .int r_74), (4, .int x_3), (2, .long r_2), (1, .int r_1), (0, .ref a0_)]) hx hb dX2_readParam_127 hl (by decide) rfl (fun ls hl => ?_)
          refine lv_aload_n hx hb dX2_readParam_129 rfl (lv_at hl 5 rfl) ?_
          refine g_getk (C := RX2) (T := TX2) (N := 16) hx hb hts (mc_ inX2) hown hK g rfl 0 (by decide) rfl (hts _ (List.mem_cons_of_mem _ t_416)) (fun _ h9 => h9) 3 rfl dX2_readParam_130 ?_
          refine g_getk (C := RX8) (T := TX8) (N := 10) hx hb hts (mc_ inX8) hown hK g rfl 8 (by decide) rfl (hts _ (List.mem_cons_of_mem _ t_294)) (fun _ h9 => h9) 1 rfl dX2_readParam_133 ?_
          have kb_0 : bd 0 0 (0 : Int32) := ⟨by decide, by decide⟩
          refine lv_if_ne (tgt := 202) hx hb dX2_readParam_136 (by decide) (fun c_82 => ?_) (fun c_82 => ?_)
          · have fc_82 := neq_f c_82
            subst hQ
            exact W.vret hx hb hr (fun t ht hW => ⟨⟨_, rfl, Or.inr (⟨x_21, h_22, (g.fcts [0, 1] rfl)⟩), q3_of g hK ht hW⟩, g.2.2.1.F ht⟩) g.2.2.1.2.2 dX2_readParam_202
          · have fc_82 := eq_f c_82
            have b_83 : bd 1 0 x_21 := eqX fc_82 h_22 kb_0 (by decide)
            exact bd_no b_83 (by decide)
      · have fc_11 := nlt_f c_11
        have b_84 : bd 3 3 x_3 := leR fc_11 kb_3 bx_3 (by decide)
        refine lv_aload_n hx hb dX2_readParam_78 rfl (lv_at hl 3 rfl) ?_
        refine g_getk (C := RX2) (T := TX2) (N := 16) hx hb hts (mc_ inX2) hown hK g rfl 0 (by decide) rfl (hts _ (List.mem_cons_of_mem _ t_416)) (fun _ h9 => h9) 1 rfl dX2_readParam_79 ?_
        refine lv_iconst (v := 4) hx hb dX2_readParam_82 (by decide) ?_
        refine lv_iload_n hx hb dX2_readParam_83 rfl (lv_at hl 2 rfl) ?_
        have kb_4 : bd 4 4 (4 : Int32) := ⟨by decide, by decide⟩
        refine g_callv (va_runV (As := [.int 4, .int r_1]) (rest := []) ⟨hx, hb, hml, hown, hts⟩ (r_X8_fail l dC dI L kd tys fr_7 H.size g.2.2.2.1 q0_ mq0_ kq0_ 4 (bd_sub kb_4 (by decide)) r_1 y0_ by0_ (g.fcts [5] rfl)) (cwV 2 hts (gV_ t_1122 t_1107 t_1108 t_184 t_1109) rfl rfl rfl (by decide +kernel) ⟨(Nat.le_of_ble_eq_true rfl), (Nat.le_of_ble_eq_true rfl)⟩) (pre3V g hK mq0_ kq0_ (by decide) (q := (RX8, TX8, 10)) rfl) rfl rfl hl.1 rfl (lv_room (Nat.le_of_ble_eq_true rfl)) dX2_readParam_84 ⟨(Nat.le_of_ble_eq_true rfl), (Nat.le_of_ble_eq_true rfl)⟩) g hK (by decide) (by decide) (fx' := [(6, 3, q2_, .int x_3), (2, 0, a0_, .ref q0_), (2, 1, a0_, .ref q1_), (2, 5, a0_, .ref q2_), (5, 1, q1_, .ref q3_)]) rfl (fun fr_85 H locs hp hMr_85 g => ?_)
        obtain ⟨x_86, h_87, hF_88⟩ := hp
        have g := g.more hF_88
        refine lv_aload_n hx hb dX2_readParam_87 rfl (lv_at hl 3 rfl) ?_
        refine g_getk (C := RX2) (T := TX2) (N := 16) hx hb hts (mc_ inX2) hown hK g rfl 0 (by decide) rfl (hts _ (List.mem_cons_of_mem _ t_416)) (fun _ h9 => h9) 3 rfl dX2_readParam_88 ?_
        have kb_1201 : bd 1201 1201 (1201 : Int32) := ⟨by decide, by decide⟩
        refine g_callv (va_runV (As := []) (rest := []) ⟨hx, hb, hml, hown, hts⟩ (r_X8_next_2 l dC dI L kd tys fr_85 H.size g.2.2.2.1 q0_ mq0_ kq0_ 1201 kb_1201 (g.fcts [0] rfl)) (cwV 0 hts (gV_ t_1131 t_1103 t_1104 t_184 t_1105) rfl rfl rfl (by decide +kernel) ⟨(Nat.le_of_ble_eq_true rfl), (Nat.le_of_ble_eq_true rfl)⟩) (pre3V g hK mq0_ kq0_ (by decide) (q := (RX8, TX8, 10)) rfl) rfl rfl hl.1 rfl (lv_room (Nat.le_of_ble_eq_true rfl)) dX2_readParam_91 ⟨(Nat.le_of_ble_eq_true rfl), (Nat.le_of_ble_eq_true rfl)⟩) g hK (by decide) (by decide) (fx' := [(8, 6, q0_, .int 1201), (8, 8, q0_, .int x_86), (6, 3, q2_, .int x_3), (2, 0, a0_, .ref q0_), (2, 1, a0_, .ref q1_), (2, 5, a0_, .ref q2_), (5, 1, q1_, .ref q3_)]) rfl (fun fr_89 H locs hp hMr_89 g => ?_)
        refine lv_aload_n hx hb dX2_readParam_94 rfl (lv_at hl 3 rfl) ?_
        refine g_getk (C := RX2) (T := TX2) (N := 16) hx hb hts (mc_ inX2) hown hK g rfl 0 (by decide) rfl (hts _ (List.mem_cons_of_mem _ t_416)) (fun _ h9 => h9) 3 rfl dX2_readParam_95 ?_
        refine lv_bipush (v := 15) hx hb dX2_readParam_98 (by decide) ?_
        refine g_callv (va_runV (As := [.int 15]) (rest := []) ⟨hx, hb, hml, hown, hts⟩ (r_X8_take_2 l dC dI L kd tys fr_89 H.size g.2.2.2.1 q0_ mq0_ kq0_ 15 1201 kb_1201 x_86 h_87 (g.fcts [0, 1] rfl)) (cwV 1 hts (gV_ t_1098 t_1099 t_1100 t_184 t_1101) rfl rfl rfl (by decide +kernel) ⟨(Nat.le_of_ble_eq_true rfl), (Nat.le_of_ble_eq_true rfl)⟩) (pre3V g hK mq0_ kq0_ (by decide) (q := (RX8, TX8, 10)) rfl) rfl rfl hl.1 rfl (lv_room (Nat.le_of_ble_eq_true rfl)) dX2_readParam_100 ⟨(Nat.le_of_ble_eq_true rfl), (Nat.le_of_ble_eq_true rfl)⟩) g hK (by decide) (by decide) (fx' := [(8, 8, q0_, .int x_86), (6, 3, q2_, .int x_3), (2, 0, a0_, .ref q0_), (2, 1, a0_, .ref q1_), (2, 5, a0_, .ref q2_), (5, 1, q1_, .ref q3_)]) rfl (fun fr_90 H locs hp hMr_90 g => ?_)
        obtain ⟨x_91, h_92, hF_93⟩ := hp
        have g := g.more hF_93
        refine lv_aload_n hx hb dX2_readParam_103 rfl (lv_at hl 3 rfl) ?_
        refine lv_ldc (v := (-2147483648)) hx hb hown (hts _ (List.mem_cons_of_mem _ t_1159)) dX2_readParam_104 ?_
        refine g_calli (va_runV (As := [.int (-2147483648)]) (rest := []) ⟨hx, hb, hml, hown, hts⟩ (r_X2_readNumber_2 l dC dI L kd tys fr_90 H.size g.2.2.2.1 a0_ ma0_ ka0_ (-2147483648) q0_ mq0_ kq0_ x_91 h_92 x_86 h_87 (g.fcts [3, 0, 1] rfl)) (cwV 1 hts (gV_ t_1160 t_1162 t_11 t_183 t_1163) rfl rfl rfl (by decide +kernel) ⟨(Nat.le_of_ble_eq_true rfl), (Nat.le_of_ble_eq_true rfl)⟩) (pre3V g hK ma0_ ka0_ (by decide) (q := (RX2, TX2, 16)) rfl) rfl rfl hl.1 rfl (lv_room (Nat.le_of_ble_eq_true rfl)) dX2_readParam_106 ⟨(Nat.le_of_ble_eq_true rfl), (Nat.le_of_ble_eq_true rfl)⟩) g hK (by decide) (by decide) (fx' := [(8, 8, q0_, .int x_86), (6, 3, q2_, .int x_3), (2, 0, a0_, .ref q0_), (2, 1, a0_, .ref q1_), (2, 5, a0_, .ref q2_), (5, 1, q1_, .ref q3_)]) rfl (fun r_94 fr_94 H locs hp hMr_94 g => ?_)
        have hF_95 := hp
        have g := g.more hF_95
        refine lv_istore (lv' := [(5, .int r_94), (4, .int x_3), (2, .long r_2), (1, .int r_1), (0, .ref a0_)]) hx hb dX2_readParam_109 hl (by decide) rfl (fun ls hl => ?_)
        refine lv_aload_n hx hb dX2_readParam_111 rfl (lv_at hl 4 rfl) ?_
        refine g_getk (C := RX2) (T := TX2) (N := 16) hx hb hts (mc_ inX2) hown hK g rfl 0 (by decide) rfl (hts _ (List.mem_cons_of_mem _ t_416)) (fun _ h9 => h9) 3 rfl dX2_readParam_112 ?_
        refine lv_sipush (v := 200) hx hb dX2_readParam_115 (by decide) ?_
        refine g_callv (va_runV (As := [.int 200]) (rest := []) ⟨hx, hb, hml, hown, hts⟩ (r_X8_take_2 l dC dI L kd tys fr_94 H.size g.2.2.2.1 q0_ mq0_ kq0_ 200 1201 kb_1201 x_86 h_87 (g.fcts [0, 1] rfl)) (cwV 1 hts (gV_ t_1098 t_1099 t_1100 t_184 t_1101) rfl rfl rfl (by decide +kernel) ⟨(Nat.le_of_ble_eq_true rfl), (Nat.le_of_ble_eq_true rfl)⟩) (pre3V g hK mq0_ kq0_ (by decide) (q := (RX8, TX8, 10)) rfl) rfl rfl hl.1 rfl (lv_room (Nat.le_of_ble_eq_true rfl)) dX2_readParam_118 ⟨(Nat.le_of_ble_eq_true rfl), (Nat.le_of_ble_eq_true rfl)⟩) g hK (by decide) (by decide) (fx' := [(8, 8, q0_, .int x_86), (6, 3, q2_, .int x_3), (2, 0, a0_, .ref q0_), (2, 1, a0_, .ref q1_), (2, 5, a0_, .ref q2_), (5, 1, q1_, .ref q3_)]) rfl (fun fr_96 H locs hp hMr_96 g => ?_)
        obtain ⟨x_97, h_98, hF_99⟩ := hp
        have g := g.more hF_99
        refine lv_aload_n hx hb dX2_readParam_121 rfl (lv_at hl 4 rfl) ?_
        refine lv_iload hx hb dX2_readParam_122 (lv_at hl 0 rfl) ?_
        refine g_calli (va_runV (As := [.int r_94]) (rest := []) ⟨hx, hb, hml, hown, hts⟩ (r_X2_readNumber_2 l dC dI L kd tys fr_96 H.size g.2.2.2.1 a0_ ma0_ ka0_ r_94 q0_ mq0_ kq0_ x_97 h_98 x_86 h_87 (g.fcts [3, 0, 1] rfl)) (cwV 1 hts (gV_ t_1160 t_1162 t_11 t_183 t_1163) rfl rfl rfl (by decide +kernel) ⟨(Nat.le_of_ble_eq_true rfl), (Nat.le_of_ble_eq_true rfl)⟩) (pre3V g hK ma0_ ka0_ (by decide) (q := (RX2, TX2, 16)) rfl) rfl rfl hl.1 rfl (lv_room (Nat.le_of_ble_eq_true rfl)) dX2_readParam_124 ⟨(Nat.le_of_ble_eq_true rfl), (Nat.le_of_ble_eq_true rfl)⟩) g hK (by decide) (by decide) (fx' := [(8, 8, q0_, .int x_86), (6, 3, q2_, .int x_3), (2, 0, a0_, .ref q0_), (2, 1, a0_, .ref q1_), (2, 5, a0_, .ref q2_), (5, 1, q1_, .ref q3_)]) rfl (fun r_100 fr_100 H locs hp hMr_100 g => ?_)
        have hF_101 := hp
        have g := g.more hF_101
        refine lv_istore (lv' := [(6, .int r_100), (5, .int r_94), (4, .int x_3), (2, .long r_2), (1, .int r_1), (0, .ref a0_)]) hx hb dX2_readParam_127 hl (by decide) rfl (fun ls hl => ?_)
        refine lv_aload_n hx hb dX2_readParam_129 rfl (lv_at hl 5 rfl) ?_
        refine g_getk (C := RX2) (T := TX2) (N := 16) hx hb hts (mc_ inX2) hown hK g rfl 0 (by decide) rfl (hts _ (List.mem_cons_of_mem _ t_416)) (fun _ h9 => h9) 3 rfl dX2_readParam_130 ?_
        refine g_getk (C := RX8) (T := TX8) (N := 10) hx hb hts (mc_ inX8) hown hK g rfl 8 (by decide) rfl (hts _ (List.mem_cons_of_mem _ t_294)) (fun _ h9 => h9) 1 rfl dX2_readParam_133 ?_
        have kb_0 : bd 0 0 (0 : Int32) := ⟨by decide, by decide⟩
        refine lv_if_ne (tgt := 202) hx hb dX2_readParam_136 (by decide) (fun c_102 => ?_) (fun c_102 => ?_)
        · have fc_102 := neq_f c_102
          subst hQ
          exact W.vret hx hb hr (fun t ht hW => ⟨⟨_, rfl, Or.inr (⟨x_86, h_87, (g.fcts [0, 1] rfl)⟩), q3_of g hK ht hW⟩, g.2.2.1.F ht⟩) g.2.2.1.2.2 dX2_readParam_202
        · have fc_102 := eq_f c_102
          have b_103 : bd 1 0 x_86 := eqX fc_102 h_87 kb_0 (by decide)
          exact bd_no b_103 (by decide)
    · have fc_9 := neq_f c_9
      have b_104 : bd 0 26 r_7 := neX fc_9 h_8 kb_m1 (by decide)
      refine lv_aload_n hx hb dX2_readParam_60 rfl (lv_at hl 3 rfl) ?_
      refine g_getk (C := RX2) (T := TX2) (N := 16) hx hb hts (mc_ inX2) hown hK g rfl 0 (by decide) rfl (hts _ (List.mem_cons_of_mem _ t_416)) (fun _ h9 => h9) 1 rfl dX2_readParam_61 ?_
      refine lv_iconst (v := 2) hx hb dX2_readParam_64 (by decide) ?_
      refine lv_iload_n hx hb dX2_readParam_65 rfl (lv_at hl 2 rfl) ?_
      have kb_2 : bd 2 2 (2 : Int32) := ⟨by decide, by decide⟩
      refine g_callv (va_runV (As := [.int 2, .int r_1]) (rest := []) ⟨hx, hb, hml, hown, hts⟩ (r_X8_fail l dC dI L kd tys fr_7 H.size g.2.2.2.1 q0_ mq0_ kq0_ 2 (bd_sub kb_2 (by decide)) r_1 y0_ by0_ (g.fcts [5] rfl)) (cwV 2 hts (gV_ t_1122 t_1107 t_1108 t_184 t_1109) rfl rfl rfl (by decide +kernel) ⟨(Nat.le_of_ble_eq_true rfl), (Nat.le_of_ble_eq_true rfl)⟩) (pre3V g hK mq0_ kq0_ (by decide) (q := (RX8, TX8, 10)) rfl) rfl rfl hl.1 rfl (lv_room (Nat.le_of_ble_eq_true rfl)) dX2_readParam_66 ⟨(Nat.le_of_ble_eq_true rfl), (Nat.le_of_ble_eq_true rfl)⟩) g hK (by decide) (by decide) (fx' := [(6, 3, q2_, .int x_3), (2, 0, a0_, .ref q0_), (2, 1, a0_, .ref q1_), (2, 5, a0_, .ref q2_), (5, 1, q1_, .ref q3_)]) rfl (fun fr_105 H locs hp hMr_105 g => ?_)
      obtain ⟨x_106, h_107, hF_108⟩ := hp
      have g := g.more hF_108
      refine lv_goto (tgt := 87) hx hb dX2_readParam_69 (by decide) ?_
      refine lv_aload_n hx hb dX2_readParam_87 rfl (lv_at hl 3 rfl) ?_
      refine g_getk (C := RX2) (T := TX2) (N := 16) hx hb hts (mc_ inX2) hown hK g rfl 0 (by decide) rfl (hts _ (List.mem_cons_of_mem _ t_416)) (fun _ h9 => h9) 3 rfl dX2_readParam_88 ?_
      have kb_1201 : bd 1201 1201 (1201 : Int32) := ⟨by decide, by decide⟩
      refine g_callv (va_runV (As := []) (rest := []) ⟨hx, hb, hml, hown, hts⟩ (r_X8_next_2 l dC dI L kd tys fr_105 H.size g.2.2.2.1 q0_ mq0_ kq0_ 1201 kb_1201 (g.fcts [0] rfl)) (cwV 0 hts (gV_ t_1131 t_1103 t_1104 t_184 t_1105) rfl rfl rfl (by decide +kernel) ⟨(Nat.le_of_ble_eq_true rfl), (Nat.le_of_ble_eq_true rfl)⟩) (pre3V g hK mq0_ kq0_ (by decide) (q := (RX8, TX8, 10)) rfl) rfl rfl hl.1 rfl (lv_room (Nat.le_of_ble_eq_true rfl)) dX2_readParam_91 ⟨(Nat.le_of_ble_eq_true rfl), (Nat.le_of_ble_eq_true rfl)⟩) g hK (by decide) (by decide) (fx' := [(8, 6, q0_, .int 1201), (8, 8, q0_, .int x_106), (6, 3, q2_, .int x_3), (2, 0, a0_, .ref q0_), (2, 1, a0_, .ref q1_), (2, 5, a0_, .ref q2_), (5, 1, q1_, .ref q3_)]) rfl (fun fr_109 H locs hp hMr_109 g => ?_)
      refine lv_aload_n hx hb dX2_readParam_94 rfl (lv_at hl 3 rfl) ?_
      refine g_getk (C := RX2) (T := TX2) (N := 16) hx hb hts (mc_ inX2) hown hK g rfl 0 (by decide) rfl (hts _ (List.mem_cons_of_mem _ t_416)) (fun _ h9 => h9) 3 rfl dX2_readParam_95 ?_
      refine lv_bipush (v := 15) hx hb dX2_readParam_98 (by decide) ?_
      refine g_callv (va_runV (As := [.int 15]) (rest := []) ⟨hx, hb, hml, hown, hts⟩ (r_X8_take_2 l dC dI L kd tys fr_109 H.size g.2.2.2.1 q0_ mq0_ kq0_ 15 1201 kb_1201 x_106 h_107 (g.fcts [0, 1] rfl)) (cwV 1 hts (gV_ t_1098 t_1099 t_1100 t_184 t_1101) rfl rfl rfl (by decide +kernel) ⟨(Nat.le_of_ble_eq_true rfl), (Nat.le_of_ble_eq_true rfl)⟩) (pre3V g hK mq0_ kq0_ (by decide) (q := (RX8, TX8, 10)) rfl) rfl rfl hl.1 rfl (lv_room (Nat.le_of_ble_eq_true rfl)) dX2_readParam_100 ⟨(Nat.le_of_ble_eq_true rfl), (Nat.le_of_ble_eq_true rfl)⟩) g hK (by decide) (by decide) (fx' := [(8, 8, q0_, .int x_106), (6, 3, q2_, .int x_3), (2, 0, a0_, .ref q0_), (2, 1, a0_, .ref q1_), (2, 5, a0_, .ref q2_), (5, 1, q1_, .ref q3_)]) rfl (fun fr_110 H locs hp hMr_110 g => ?_)
      obtain ⟨x_111, h_112, hF_113⟩ := hp
      have g := g.more hF_113
      refine lv_aload_n hx hb dX2_readParam_103 rfl (lv_at hl 3 rfl) ?_
      refine lv_ldc (v := (-2147483648)) hx hb hown (hts _ (List.mem_cons_of_mem _ t_1159)) dX2_readParam_104 ?_
      refine g_calli (va_runV (As := [.int (-2147483648)]) (rest := []) ⟨hx, hb, hml, hown, hts⟩ (r_X2_readNumber_2 l dC dI L kd tys fr_110 H.size g.2.2.2.1 a0_ ma0_ ka0_ (-2147483648) q0_ mq0_ kq0_ x_111 h_112 x_106 h_107 (g.fcts [3, 0, 1] rfl)) (cwV 1 hts (gV_ t_1160 t_1162 t_11 t_183 t_1163) rfl rfl rfl (by decide +kernel) ⟨(Nat.le_of_ble_eq_true rfl), (Nat.le_of_ble_eq_true rfl)⟩) (pre3V g hK ma0_ ka0_ (by decide) (q := (RX2, TX2, 16)) rfl) rfl rfl hl.1 rfl (lv_room (Nat.le_of_ble_eq_true rfl)) dX2_readParam_106 ⟨(Nat.le_of_ble_eq_true rfl), (Nat.le_of_ble_eq_true rfl)⟩) g hK (by decide) (by decide) (fx' := [(8, 8, q0_, .int x_106), (6, 3, q2_, .int x_3), (2, 0, a0_, .ref q0_), (2, 1, a0_, .ref q1_), (2, 5, a0_, .ref q2_), (5, 1, q1_, .ref q3_)]) rfl (fun r_114 fr_114 H locs hp hMr_114 g => ?_)
      have hF_115 := hp
      have g := g.more hF_115
      refine lv_istore (lv' := [(5, .int r_114), (4, .int x_3), (2, .long r_2), (1, .int r_1), (0, .ref a0_)]) hx hb dX2_readParam_109 hl (by decide) rfl (fun ls hl => ?_)
      refine lv_aload_n hx hb dX2_readParam_111 rfl (lv_at hl 4 rfl) ?_
      refine g_getk (C := RX2) (T := TX2) (N := 16) hx hb hts (mc_ inX2) hown hK g rfl 0 (by decide) rfl (hts _ (List.mem_cons_of_mem _ t_416)) (fun _ h9 => h9) 3 rfl dX2_readParam_112 ?_
      refine lv_sipush (v := 200) hx hb dX2_readParam_115 (by decide) ?_
      refine g_callv (va_runV (As := [.int 200]) (rest := []) ⟨hx, hb, hml, hown, hts⟩ (r_X8_take_2 l dC dI L kd tys fr_114 H.size g.2.2.2.1 q0_ mq0_ kq0_ 200 1201 kb_1201 x_106 h_107 (g.fcts [0, 1] rfl)) (cwV 1 hts (gV_ t_1098 t_1099 t_1100 t_184 t_1101) rfl rfl rfl (by decide +kernel) ⟨(Nat.le_of_ble_eq_true rfl), (Nat.le_of_ble_eq_true rfl)⟩) (pre3V g hK mq0_ kq0_ (by decide) (q := (RX8, TX8, 10)) rfl) rfl rfl hl.1 rfl (lv_room (Nat.le_of_ble_eq_true rfl)) dX2_readParam_118 ⟨(Nat.le_of_ble_eq_true rfl), (Nat.le_of_ble_eq_true rfl)⟩) g hK (by decide) (by decide) (fx' := [(8, 8, q0_, .int x_106), (6, 3, q2_, .int x_3), (2, 0, a0_, .ref q0_), (2, 1, a0_, .ref q1_), (2, 5, a0_, .ref q2_), (5, 1, q1_, .ref q3_)]) rfl (fun fr_116 H locs hp hMr_116 g => ?_)
      obtain ⟨x_117, h_118, hF_119⟩ := hp
      have g := g.more hF_119
      refine lv_aload_n hx hb dX2_readParam_121 rfl (lv_at hl 4 rfl) ?_
      refine lv_iload hx hb dX2_readParam_122 (lv_at hl 0 rfl) ?_
      refine g_calli (va_runV (As := [.int r_114]) (rest := []) ⟨hx, hb, hml, hown, hts⟩ (r_X2_readNumber_2 l dC dI L kd tys fr_116 H.size g.2.2.2.1 a0_ ma0_ ka0_ r_114 q0_ mq0_ kq0_ x_117 h_118 x_106 h_107 (g.fcts [3, 0, 1] rfl)) (cwV 1 hts (gV_ t_1160 t_1162 t_11 t_183 t_1163) rfl rfl rfl (by decide +kernel) ⟨(Nat.le_of_ble_eq_true rfl), (Nat.le_of_ble_eq_true rfl)⟩) (pre3V g hK ma0_ ka0_ (by decide) (q := (RX2, TX2, 16)) rfl) rfl rfl hl.1 rfl (lv_room (Nat.le_of_ble_eq_true rfl)) dX2_readParam_124 ⟨(Nat.le_of_ble_eq_true rfl), (Nat.le_of_ble_eq_true rfl)⟩) g hK (by decide) (by decide) (fx' := [(8, 8, q0_, .int x_106), (6, 3, q2_, .int x_3), (2, 0, a0_, .ref q0_), (2, 1, a0_, .ref q1_), (2, 5, a0_, .ref q2_), (5, 1, q1_, .ref q3_)]) rfl (fun r_120 fr_120 H locs hp hMr_120 g => ?_)
      have hF_121 := hp
      have g := g.more hF_121
      refine lv_istore (lv' := [(6, .int r_120), (5, .int r_114), (4, .int x_3), (2, .long r_2), (1, .int r_1), (0, .ref a0_)]) hx hb dX2_readParam_127 hl (by decide) rfl (fun ls hl => ?_)
      refine lv_aload_n hx hb dX2_readParam_129 rfl (lv_at hl 5 rfl) ?_
      refine g_getk (C := RX2) (T := TX2) (N := 16) hx hb hts (mc_ inX2) hown hK g rfl 0 (by decide) rfl (hts _ (List.mem_cons_of_mem _ t_416)) (fun _ h9 => h9) 3 rfl dX2_readParam_130 ?_
      refine g_getk (C := RX8) (T := TX8) (N := 10) hx hb hts (mc_ inX8) hown hK g rfl 8 (by decide) rfl (hts _ (List.mem_cons_of_mem _ t_294)) (fun _ h9 => h9) 1 rfl dX2_readParam_133 ?_
      have kb_0 : bd 0 0 (0 : Int32) := ⟨by decide, by decide⟩
      refine lv_if_ne (tgt := 202) hx hb dX2_readParam_136 (by decide) (fun c_122 => ?_) (fun c_122 => ?_)
      · have fc_122 := neq_f c_122
        subst hQ
        exact W.vret hx hb hr (fun t ht hW => ⟨⟨_, rfl, Or.inr (⟨x_106, h_107, (g.fcts [0, 1] rfl)⟩), q3_of g hK ht hW⟩, g.2.2.1.F ht⟩) g.2.2.1.2.2 dX2_readParam_202
      · have fc_122 := eq_f c_122
        have b_123 : bd 1 0 x_106 := eqX fc_122 h_107 kb_0 (by decide)
        exact bd_no b_123 (by decide)
  · have fc_5 := neq_f c_5
    refine lv_aload_n hx hb dX2_readParam_36 rfl (lv_at hl 3 rfl) ?_
    refine g_getk (C := RX2) (T := TX2) (N := 16) hx hb hts (mc_ inX2) hown hK g rfl 0 (by decide) rfl (hts _ (List.mem_cons_of_mem _ t_416)) (fun _ h9 => h9) 1 rfl dX2_readParam_37 ?_
    refine lv_iconst (v := 1) hx hb dX2_readParam_40 (by decide) ?_
    refine lv_iload_n hx hb dX2_readParam_41 rfl (lv_at hl 2 rfl) ?_
    have kb_1 : bd 1 1 (1 : Int32) := ⟨by decide, by decide⟩
    refine g_callv (va_runV (As := [.int 1, .int r_1]) (rest := []) ⟨hx, hb, hml, hown, hts⟩ (r_X8_fail l dC dI L kd tys fr_4 H.size g.2.2.2.1 q0_ mq0_ kq0_ 1 (bd_sub kb_1 (by decide)) r_1 y0_ by0_ (g.fcts [5] rfl)) (cwV 2 hts (gV_ t_1122 t_1107 t_1108 t_184 t_1109) rfl rfl rfl (by decide +kernel) ⟨(Nat.le_of_ble_eq_true rfl), (Nat.le_of_ble_eq_true rfl)⟩) (pre3V g hK mq0_ kq0_ (by decide) (q := (RX8, TX8, 10)) rfl) rfl rfl hl.1 rfl (lv_room (Nat.le_of_ble_eq_true rfl)) dX2_readParam_42 ⟨(Nat.le_of_ble_eq_true rfl), (Nat.le_of_ble_eq_true rfl)⟩) g hK (by decide) (by decide) (fx' := [(6, 3, q2_, .int x_3), (2, 0, a0_, .ref q0_), (2, 1, a0_, .ref q1_), (2, 5, a0_, .ref q2_), (5, 1, q1_, .ref q3_)]) rfl (fun fr_124 H locs hp hMr_124 g => ?_)
    obtain ⟨x_125, h_126, hF_127⟩ := hp
    have g := g.more hF_127
    refine lv_goto (tgt := 87) hx hb dX2_readParam_45 (by decide) ?_
    refine lv_aload_n hx hb dX2_readParam_87 rfl (lv_at hl 3 rfl) ?_
    refine g_getk (C := RX2) (T := TX2) (N := 16) hx hb hts (mc_ inX2) hown hK g rfl 0 (by decide) rfl (hts _ (List.mem_cons_of_mem _ t_416)) (fun _ h9 => h9) 3 rfl dX2_readParam_88 ?_
    have kb_1201 : bd 1201 1201 (1201 : Int32) := ⟨by decide, by decide⟩
    refine g_callv (va_runV (As := []) (rest := []) ⟨hx, hb, hml, hown, hts⟩ (r_X8_next_2 l dC dI L kd tys fr_124 H.size g.2.2.2.1 q0_ mq0_ kq0_ 1201 kb_1201 (g.fcts [0] rfl)) (cwV 0 hts (gV_ t_1131 t_1103 t_1104 t_184 t_1105) rfl rfl rfl (by decide +kernel) ⟨(Nat.le_of_ble_eq_true rfl), (Nat.le_of_ble_eq_true rfl)⟩) (pre3V g hK mq0_ kq0_ (by decide) (q := (RX8, TX8, 10)) rfl) rfl rfl hl.1 rfl (lv_room (Nat.le_of_ble_eq_true rfl)) dX2_readParam_91 ⟨(Nat.le_of_ble_eq_true rfl), (Nat.le_of_ble_eq_true rfl)⟩) g hK (by decide) (by decide) (fx' := [(8, 6, q0_, .int 1201), (8, 8, q0_, .int x_125), (6, 3, q2_, .int x_3), (2, 0, a0_, .ref q0_), (2, 1, a0_, .ref q1_), (2, 5, a0_, .ref q2_), (5, 1, q1_, .ref q3_)]) rfl (fun fr_128 H locs hp hMr_128 g => ?_)
    refine lv_aload_n hx hb dX2_readParam_94 rfl (lv_at hl 3 rfl) ?_
    refine g_getk (C := RX2) (T := TX2) (N := 16) hx hb hts (mc_ inX2) hown hK g rfl 0 (by decide) rfl (hts _ (List.mem_cons_of_mem _ t_416)) (fun _ h9 => h9) 3 rfl dX2_readParam_95 ?_
    refine lv_bipush (v := 15) hx hb dX2_readParam_98 (by decide) ?_
    refine g_callv (va_runV (As := [.int 15]) (rest := []) ⟨hx, hb, hml, hown, hts⟩ (r_X8_take_2 l dC dI L kd tys fr_128 H.size g.2.2.2.1 q0_ mq0_ kq0_ 15 1201 kb_1201 x_125 h_126 (g.fcts [0, 1] rfl)) (cwV 1 hts (gV_ t_1098 t_1099 t_1100 t_184 t_1101) rfl rfl rfl (by decide +kernel) ⟨(Nat.le_of_ble_eq_true rfl), (Nat.le_of_ble_eq_true rfl)⟩) (pre3V g hK mq0_ kq0_ (by decide) (q := (RX8, TX8, 10)) rfl) rfl rfl hl.1 rfl (lv_room (Nat.le_of_ble_eq_true rfl)) dX2_readParam_100 ⟨(Nat.le_of_ble_eq_true rfl), (Nat.le_of_ble_eq_true rfl)⟩) g hK (by decide) (by decide) (fx' := [(8, 8, q0_, .int x_125), (6, 3, q2_, .int x_3), (2, 0, a0_, .ref q0_), (2, 1, a0_, .ref q1_), (2, 5, a0_, .ref q2_), (5, 1, q1_, .ref q3_)]) rfl (fun fr_129 H locs hp hMr_129 g => ?_)
    obtain ⟨x_130, h_131, hF_132⟩ := hp
    have g := g.more hF_132
    refine lv_aload_n hx hb dX2_readParam_103 rfl (lv_at hl 3 rfl) ?_
    refine lv_ldc (v := (-2147483648)) hx hb hown (hts _ (List.mem_cons_of_mem _ t_1159)) dX2_readParam_104 ?_
    refine g_calli (va_runV (As := [.int (-2147483648)]) (rest := []) ⟨hx, hb, hml, hown, hts⟩ (r_X2_readNumber_2 l dC dI L kd tys fr_129 H.size g.2.2.2.1 a0_ ma0_ ka0_ (-2147483648) q0_ mq0_ kq0_ x_130 h_131 x_125 h_126 (g.fcts [3, 0, 1] rfl)) (cwV 1 hts (gV_ t_1160 t_1162 t_11 t_183 t_1163) rfl rfl rfl (by decide +kernel) ⟨(Nat.le_of_ble_eq_true rfl), (Nat.le_of_ble_eq_true rfl)⟩) (pre3V g hK ma0_ ka0_ (by decide) (q := (RX2, TX2, 16)) rfl) rfl rfl hl.1 rfl (lv_room (Nat.le_of_ble_eq_true rfl)) dX2_readParam_106 ⟨(Nat.le_of_ble_eq_true rfl), (Nat.le_of_ble_eq_true rfl)⟩) g hK (by decide) (by decide) (fx' := [(8, 8, q0_, .int x_125), (6, 3, q2_, .int x_3), (2, 0, a0_, .ref q0_), (2, 1, a0_, .ref q1_), (2, 5, a0_, .ref q2_), (5, 1, q1_, .ref q3_)]) rfl (fun r_133 fr_133 H locs hp hMr_133 g => ?_)
    have hF_134 := hp
    have g := g.more hF_134
    refine lv_istore (lv' := [(5, .int r_133), (4, .int x_3), (2, .long r_2), (1, .int r_1), (0, .ref a0_)]) hx hb dX2_readParam_109 hl (by decide) rfl (fun ls hl => ?_)
    refine lv_aload_n hx hb dX2_readParam_111 rfl (lv_at hl 4 rfl) ?_
    refine g_getk (C := RX2) (T := TX2) (N := 16) hx hb hts (mc_ inX2) hown hK g rfl 0 (by decide) rfl (hts _ (List.mem_cons_of_mem _ t_416)) (fun _ h9 => h9) 3 rfl dX2_readParam_112 ?_
    refine lv_sipush (v := 200) hx hb dX2_readParam_115 (by decide) ?_
    refine g_callv (va_runV (As := [.int 200]) (rest := []) ⟨hx, hb, hml, hown, hts⟩ (r_X8_take_2 l dC dI L kd tys fr_133 H.size g.2.2.2.1 q0_ mq0_ kq0_ 200 1201 kb_1201 x_125 h_126 (g.fcts [0, 1] rfl)) (cwV 1 hts (gV_ t_1098 t_1099 t_1100 t_184 t_1101) rfl rfl rfl (by decide +kernel) ⟨(Nat.le_of_ble_eq_true rfl), (Nat.le_of_ble_eq_true rfl)⟩) (pre3V g hK mq0_ kq0_ (by decide) (q := (RX8, TX8, 10)) rfl) rfl rfl hl.1 rfl (lv_room (Nat.le_of_ble_eq_true rfl)) dX2_readParam_118 ⟨(Nat.le_of_ble_eq_true rfl), (Nat.le_of_ble_eq_true rfl)⟩) g hK (by decide) (by decide) (fx' := [(8, 8, q0_, .int x_125), (6, 3, q2_, .int x_3), (2, 0, a0_, .ref q0_), (2, 1, a0_, .ref q1_), (2, 5, a0_, .ref q2_), (5, 1, q1_, .ref q3_)]) rfl (fun fr_135 H locs hp hMr_135 g => ?_)
    obtain ⟨x_136, h_137, hF_138⟩ := hp
    have g := g.more hF_138
    refine lv_aload_n hx hb dX2_readParam_121 rfl (lv_at hl 4 rfl) ?_
    refine lv_iload hx hb dX2_readParam_122 (lv_at hl 0 rfl) ?_
    refine g_calli (va_runV (As := [.int r_133]) (rest := []) ⟨hx, hb, hml, hown, hts⟩ (r_X2_readNumber_2 l dC dI L kd tys fr_135 H.size g.2.2.2.1 a0_ ma0_ ka0_ r_133 q0_ mq0_ kq0_ x_136 h_137 x_125 h_126 (g.fcts [3, 0, 1] rfl)) (cwV 1 hts (gV_ t_1160 t_1162 t_11 t_183 t_1163) rfl rfl rfl (by decide +kernel) ⟨(Nat.le_of_ble_eq_true rfl), (Nat.le_of_ble_eq_true rfl)⟩) (pre3V g hK ma0_ ka0_ (by decide) (q := (RX2, TX2, 16)) rfl) rfl rfl hl.1 rfl (lv_room (Nat.le_of_ble_eq_true rfl)) dX2_readParam_124 ⟨(Nat.le_of_ble_eq_true rfl), (Nat.le_of_ble_eq_true rfl)⟩) g hK (by decide) (by decide) (fx' := [(8, 8, q0_, .int x_125), (6, 3, q2_, .int x_3), (2, 0, a0_, .ref q0_), (2, 1, a0_, .ref q1_), (2, 5, a0_, .ref q2_), (5, 1, q1_, .ref q3_)]) rfl (fun r_139 fr_139 H locs hp hMr_139 g => ?_)
    have hF_140 := hp
    have g := g.more hF_140
    refine lv_istore (lv' := [(6, .int r_139), (5, .int r_133), (4, .int x_3), (2, .long r_2), (1, .int r_1), (0, .ref a0_)]) hx hb dX2_readParam_127 hl (by decide) rfl (fun ls hl => ?_)
    refine lv_aload_n hx hb dX2_readParam_129 rfl (lv_at hl 5 rfl) ?_
    refine g_getk (C := RX2) (T := TX2) (N := 16) hx hb hts (mc_ inX2) hown hK g rfl 0 (by decide) rfl (hts _ (List.mem_cons_of_mem _ t_416)) (fun _ h9 => h9) 3 rfl dX2_readParam_130 ?_
    refine g_getk (C := RX8) (T := TX8) (N := 10) hx hb hts (mc_ inX8) hown hK g rfl 8 (by decide) rfl (hts _ (List.mem_cons_of_mem _ t_294)) (fun _ h9 => h9) 1 rfl dX2_readParam_133 ?_
    have kb_0 : bd 0 0 (0 : Int32) := ⟨by decide, by decide⟩
    refine lv_if_ne (tgt := 202) hx hb dX2_readParam_136 (by decide) (fun c_141 => ?_) (fun c_141 => ?_)
    · have fc_141 := neq_f c_141
      subst hQ
      exact W.vret hx hb hr (fun t ht hW => ⟨⟨_, rfl, Or.inr (⟨x_125, h_126, (g.fcts [0, 1] rfl)⟩), q3_of g hK ht hW⟩, g.2.2.1.F ht⟩) g.2.2.1.2.2 dX2_readParam_202
    · have fc_141 := eq_f c_141
      have b_142 : bd 1 0 x_125 := eqX fc_141 h_126 kb_0 (by decide)
      exact bd_no b_142 (by decide)
set_option maxHeartbeats 4000000 in
set_option maxRecDepth 100000 in
theorem r_X2_readParam_2 (l : Launch) (dC : Nat → ClassId) (dI : Nat → Nat → Nat) (L : List Nat) (kd : Nat → Nat) (tys : List (ClassId × FieldType)) (f0 : Nat → va_E) (sz : Nat) (hWT : WT L kd tys f0) (a0_ : Nat) (ma0_ : a0_ ∈ L) (ka0_ : kd a0_ = 2) (q0_ : Nat) (mq0_ : q0_ ∈ L) (kq0_ : kd q0_ = 8) (q1_ : Nat) (mq1_ : q1_ ∈ L) (kq1_ : kd q1_ = 5) (q2_ : Nat) (mq2_ : q2_ ∈ L) (kq2_ : kd q2_ = 6) (q3_ : Nat) (mq3_ : q3_ ∈ L) (kq3_ : kd q3_ = 9) (y0_ : Int32) (by0_ : bd 1201 1201 y0_) (y1_ : Int32) (by1_ : bd 1 7 y1_) (hfx : Fs L kd f0 [(2, 0, a0_, .ref q0_), (2, 1, a0_, .ref q1_), (2, 5, a0_, .ref q2_), (5, 1, q1_, .ref q3_), (8, 6, q0_, .int y0_), (8, 8, q0_, .int y1_)]) : Met l yX2_readParam (.code yX2_readParam cX2_readParam 7 none :: lw_g) ({ frames := 2, cells := 0, slots := 0, locals := 46 }) (va_Pc [.ref a0_] (P3 (dC, dI) L tys f0 sz)) (va_Qv (fun (f : Nat → va_E) => (Fs L kd f [(8, 6, q0_, .int 1201)])) (Q3 (dC, dI) L kd tys [(8, 6)] [] f0 sz) (pA L sz)) 0 0 (pA L sz) := by
  refine Met.ofW (cc := cX2_readParam) (maxL := 7) (ret := none) (by decide) rfl ?_
  intro p e s m args below meth c s₁ B hml hv
  obtain ⟨rfl, hsz, hP, hK, hD0⟩ := hv
  have hx := B.exec
  have hb := B.bytes
  have hr := B.returns
  have hts := atoms_spec (ws := (.code yX2_readParam cX2_readParam 7 none :: lw_g)) B.pre
  have hown : s.vm.findClass RX2 = some m.cls := findClass_of_methodNamed B.named
  have hlocks := B.notSynchronized
  subst hsz
  have g : G3 (dC, dI) L kd tys s f0 [(8, 6)] [] f0 s.heap [] [(2, 0, a0_, .ref q0_), (2, 1, a0_, .ref q1_), (2, 5, a0_, .ref q2_), (5, 1, q1_, .ref q3_), (8, 6, q0_, .int y0_), (8, 8, q0_, .int y1_)] := G3.start hP hD0 hWT hfx
  have hl := lv_entry ([.ref a0_]) (n := 7) (Nat.le_of_ble_eq_true rfl)
  rw [lg_entry_eq]
  generalize (lg_sl ([.ref a0_]) ++ List.replicate (7 - (lg_sl ([.ref a0_])).length) Slot.unset).toArray = ls at hl ⊢
  have hl : lv_has ls 7 [(0, .ref a0_)] := hl
  refine W_q (fun Q hQ => ?_)
  refine lv_aload_n hx hb dX2_readParam_0 rfl (lv_at hl 0 rfl) ?_
  refine g_getk (C := RX2) (T := TX2) (N := 16) hx hb hts (mc_ inX2) hown hK g rfl 0 (by decide) rfl (hts _ (List.mem_cons_of_mem _ t_416)) (fun _ h9 => h9) 0 rfl dX2_readParam_1 ?_
  refine g_calli (va_runV (As := []) (rest := []) ⟨hx, hb, hml, hown, hts⟩ (r_X8_place l dC dI L kd tys f0 s.heap.size g.2.2.2.1 q0_ mq0_ kq0_) (cwV 0 hts (gV_ t_1110 t_1111 t_1112 t_184 t_1113) rfl rfl rfl (by decide +kernel) ⟨(Nat.le_of_ble_eq_true rfl), (Nat.le_of_ble_eq_true rfl)⟩) (pre3V g hK mq0_ kq0_ (by decide) (q := (RX8, TX8, 10)) rfl) rfl rfl hl.1 rfl (lv_room (Nat.le_of_ble_eq_true rfl)) dX2_readParam_4 ⟨(Nat.le_of_ble_eq_true rfl), (Nat.le_of_ble_eq_true rfl)⟩) g hK (by decide) (by decide) (fx' := [(2, 0, a0_, .ref q0_), (2, 1, a0_, .ref q1_), (2, 5, a0_, .ref q2_), (5, 1, q1_, .ref q3_), (8, 6, q0_, .int y0_), (8, 8, q0_, .int y1_)]) rfl (fun r_1 fr_1 H locs hp hMr_1 g => ?_)
  refine lv_istore_n (lv' := [(1, .int r_1), (0, .ref a0_)]) hx hb dX2_readParam_7 rfl hl (by decide) rfl (fun ls hl => ?_)
  refine lv_aload_n hx hb dX2_readParam_8 rfl (lv_at hl 1 rfl) ?_
  refine g_getk (C := RX2) (T := TX2) (N := 16) hx hb hts (mc_ inX2) hown hK g rfl 0 (by decide) rfl (hts _ (List.mem_cons_of_mem _ t_416)) (fun _ h9 => h9) 0 rfl dX2_readParam_9 ?_
  refine g_calll (va_runV (As := []) (rest := []) ⟨hx, hb, hml, hown, hts⟩ (r_X8_value l dC dI L kd tys fr_1 H.size g.2.2.2.1 q0_ mq0_ kq0_) (cwV 0 hts (gV_ t_1114 t_1115 t_1116 t_184 t_1117) rfl rfl rfl (by decide +kernel) ⟨(Nat.le_of_ble_eq_true rfl), (Nat.le_of_ble_eq_true rfl)⟩) (pre3V g hK mq0_ kq0_ (by decide) (q := (RX8, TX8, 10)) rfl) rfl rfl hl.1 rfl (lv_room (Nat.le_of_ble_eq_true rfl)) dX2_readParam_12 ⟨(Nat.le_of_ble_eq_true rfl), (Nat.le_of_ble_eq_true rfl)⟩) g hK (by decide) (by decide) (fx' := [(2, 0, a0_, .ref q0_), (2, 1, a0_, .ref q1_), (2, 5, a0_, .ref q2_), (5, 1, q1_, .ref q3_), (8, 6, q0_, .int y0_), (8, 8, q0_, .int y1_)]) rfl (fun r_2 fr_2 H locs hp hMr_2 g => ?_)
  refine lv_lstore_n (lv' := [(2, .long r_2), (1, .int r_1), (0, .ref a0_)]) hx hb dX2_readParam_15 rfl hl (by decide) rfl (fun ls hl => ?_)
  refine lv_aload_n hx hb dX2_readParam_16 rfl (lv_at hl 2 rfl) ?_
  refine g_getk (C := RX2) (T := TX2) (N := 16) hx hb hts (mc_ inX2) hown hK g rfl 5 (by decide) rfl (hts _ (List.mem_cons_of_mem _ t_421)) (fun _ h9 => h9) 2 rfl dX2_readParam_17 ?_
  refine g_geti (C := RX6) (T := TX6) (N := 13) hx hb hts (mc_ inX6) hown hK g mq2_ kq2_ (by decide) rfl 3 (by decide) rfl (hts _ (List.mem_cons_of_mem _ t_568)) (fun _ h9 => h9) rfl dX2_readParam_20 (fun x_3 bx_3 g => ?_)
  refine lv_istore (lv' := [(4, .int x_3), (2, .long r_2), (1, .int r_1), (0, .ref a0_)]) hx hb dX2_readParam_23 hl (by decide) rfl (fun ls hl => ?_)
  refine lv_aload_n hx hb dX2_readParam_25 rfl (lv_at hl 3 rfl) ?_
  refine g_getk (C := RX2) (T := TX2) (N := 16) hx hb hts (mc_ inX2) hown hK g rfl 0 (by decide) rfl (hts _ (List.mem_cons_of_mem _ t_416)) (fun _ h9 => h9) 1 rfl dX2_readParam_26 ?_
  refine g_calli (va_runV (As := []) (rest := []) ⟨hx, hb, hml, hown, hts⟩ (r_X8_kind_2 l dC dI L kd tys fr_2 H.size g.2.2.2.1 q0_ mq0_ kq0_ y0_ by0_ (g.fcts [5] rfl)) (cwV 0 hts (gV_ t_1118 t_1119 t_1120 t_184 t_1121) rfl rfl rfl (by decide +kernel) ⟨(Nat.le_of_ble_eq_true rfl), (Nat.le_of_ble_eq_true rfl)⟩) (pre3V g hK mq0_ kq0_ (by decide) (q := (RX8, TX8, 10)) rfl) rfl rfl hl.1 rfl (lv_room (Nat.le_of_ble_eq_true rfl)) dX2_readParam_29 ⟨(Nat.le_of_ble_eq_true rfl), (Nat.le_of_ble_eq_true rfl)⟩) g hK (by decide) (by decide) (fx' := [(6, 3, q2_, .int x_3), (2, 0, a0_, .ref q0_), (2, 1, a0_, .ref q1_), (2, 5, a0_, .ref q2_), (5, 1, q1_, .ref q3_), (8, 6, q0_, .int y0_), (8, 8, q0_, .int y1_)]) rfl (fun r_4 fr_4 H locs hp hMr_4 g => ?_)
  obtain ⟨h_5, -⟩ := hp
  obtain rfl : r_4 = 0 := h_5
  refine lv_iconst (v := 3) hx hb dX2_readParam_32 (by decide) ?_
  refine lv_icmp_eq (tgt := 48) hx hb dX2_readParam_33 (by decide) (fun c_ => absurd c_ (by decide)) (fun c_ => ?_)
  refine lv_aload_n hx hb dX2_readParam_36 rfl (lv_at hl 3 rfl) ?_
  refine g_getk (C := RX2) (T := TX2) (N := 16) hx hb hts (mc_ inX2) hown hK g rfl 0 (by decide) rfl (hts _ (List.mem_cons_of_mem _ t_416)) (fun _ h9 => h9) 1 rfl dX2_readParam_37 ?_
  refine lv_iconst (v := 1) hx hb dX2_readParam_40 (by decide) ?_
  refine lv_iload_n hx hb dX2_readParam_41 rfl (lv_at hl 2 rfl) ?_
  have kb_1 : bd 1 1 (1 : Int32) := ⟨by decide, by decide⟩
  refine g_callv (va_runV (As := [.int 1, .int r_1]) (rest := []) ⟨hx, hb, hml, hown, hts⟩ (r_X8_fail_2 l dC dI L kd tys fr_4 H.size g.2.2.2.1 q0_ mq0_ kq0_ 1 (bd_sub kb_1 (by decide)) r_1 y1_ by1_ (g.fcts [6] rfl)) (cwV 2 hts (gV_ t_1122 t_1107 t_1108 t_184 t_1109) rfl rfl rfl (by decide +kernel) ⟨(Nat.le_of_ble_eq_true rfl), (Nat.le_of_ble_eq_true rfl)⟩) (pre3V g hK mq0_ kq0_ (by decide) (q := (RX8, TX8, 10)) rfl) rfl rfl hl.1 rfl (lv_room (Nat.le_of_ble_eq_true rfl)) dX2_readParam_42 ⟨(Nat.le_of_ble_eq_true rfl), (Nat.le_of_ble_eq_true rfl)⟩) g hK (by decide) (by decide) (fx' := [(6, 3, q2_, .int x_3), (2, 0, a0_, .ref q0_), (2, 1, a0_, .ref q1_), (2, 5, a0_, .ref q2_), (5, 1, q1_, .ref q3_), (8, 8, q0_, .int y1_)]) rfl (fun fr_6 H locs hp hMr_6 g => ?_)
  have hF_7 := hp
  have g := g.more hF_7
  refine lv_goto (tgt := 87) hx hb dX2_readParam_45 (by decide) ?_
  refine lv_aload_n hx hb dX2_readParam_87 rfl (lv_at hl 3 rfl) ?_
  refine g_getk (C := RX2) (T := TX2) (N := 16) hx hb hts (mc_ inX2) hown hK g rfl 0 (by decide) rfl (hts _ (List.mem_cons_of_mem _ t_416)) (fun _ h9 => h9) 2 rfl dX2_readParam_88 ?_
  have kb_1201 : bd 1201 1201 (1201 : Int32) := ⟨by decide, by decide⟩
  refine g_callv (va_runV (As := []) (rest := []) ⟨hx, hb, hml, hown, hts⟩ (r_X8_next_2 l dC dI L kd tys fr_6 H.size g.2.2.2.1 q0_ mq0_ kq0_ 1201 kb_1201 (g.fcts [0] rfl)) (cwV 0 hts (gV_ t_1131 t_1103 t_1104 t_184 t_1105) rfl rfl rfl (by decide +kernel) ⟨(Nat.le_of_ble_eq_true rfl), (Nat.le_of_ble_eq_true rfl)⟩) (pre3V g hK mq0_ kq0_ (by decide) (q := (RX8, TX8, 10)) rfl) rfl rfl hl.1 rfl (lv_room (Nat.le_of_ble_eq_true rfl)) dX2_readParam_91 ⟨(Nat.le_of_ble_eq_true rfl), (Nat.le_of_ble_eq_true rfl)⟩) g hK (by decide) (by decide) (fx' := [(8, 6, q0_, .int 1201), (6, 3, q2_, .int x_3), (2, 0, a0_, .ref q0_), (2, 1, a0_, .ref q1_), (2, 5, a0_, .ref q2_), (5, 1, q1_, .ref q3_), (8, 8, q0_, .int y1_)]) rfl (fun fr_8 H locs hp hMr_8 g => ?_)
  refine lv_aload_n hx hb dX2_readParam_94 rfl (lv_at hl 3 rfl) ?_
  refine g_getk (C := RX2) (T := TX2) (N := 16) hx hb hts (mc_ inX2) hown hK g rfl 0 (by decide) rfl (hts _ (List.mem_cons_of_mem _ t_416)) (fun _ h9 => h9) 2 rfl dX2_readParam_95 ?_
  refine lv_bipush (v := 15) hx hb dX2_readParam_98 (by decide) ?_
  refine g_callv (va_runV (As := [.int 15]) (rest := []) ⟨hx, hb, hml, hown, hts⟩ (r_X8_take_2 l dC dI L kd tys fr_8 H.size g.2.2.2.1 q0_ mq0_ kq0_ 15 1201 kb_1201 y1_ by1_ (g.fcts [0, 6] rfl)) (cwV 1 hts (gV_ t_1098 t_1099 t_1100 t_184 t_1101) rfl rfl rfl (by decide +kernel) ⟨(Nat.le_of_ble_eq_true rfl), (Nat.le_of_ble_eq_true rfl)⟩) (pre3V g hK mq0_ kq0_ (by decide) (q := (RX8, TX8, 10)) rfl) rfl rfl hl.1 rfl (lv_room (Nat.le_of_ble_eq_true rfl)) dX2_readParam_100 ⟨(Nat.le_of_ble_eq_true rfl), (Nat.le_of_ble_eq_true rfl)⟩) g hK (by decide) (by decide) (fx' := [(6, 3, q2_, .int x_3), (2, 0, a0_, .ref q0_), (2, 1, a0_, .ref q1_), (2, 5, a0_, .ref q2_), (5, 1, q1_, .ref q3_), (8, 8, q0_, .int y1_)]) rfl (fun fr_9 H locs hp hMr_9 g => ?_)
  obtain ⟨x_10, h_11, hF_12⟩ := hp
  have g := g.more hF_12
  refine lv_aload_n hx hb dX2_readParam_103 rfl (lv_at hl 3 rfl) ?_
  refine lv_ldc (v := (-2147483648)) hx hb hown (hts _ (List.mem_cons_of_mem _ t_1159)) dX2_readParam_104 ?_
  refine g_calli (va_runV (As := [.int (-2147483648)]) (rest := []) ⟨hx, hb, hml, hown, hts⟩ (r_X2_readNumber_2 l dC dI L kd tys fr_9 H.size g.2.2.2.1 a0_ ma0_ ka0_ (-2147483648) q0_ mq0_ kq0_ x_10 h_11 y1_ by1_ (g.fcts [2, 0, 6] rfl)) (cwV 1 hts (gV_ t_1160 t_1162 t_11 t_183 t_1163) rfl rfl rfl (by decide +kernel) ⟨(Nat.le_of_ble_eq_true rfl), (Nat.le_of_ble_eq_true rfl)⟩) (pre3V g hK ma0_ ka0_ (by decide) (q := (RX2, TX2, 16)) rfl) rfl rfl hl.1 rfl (lv_room (Nat.le_of_ble_eq_true rfl)) dX2_readParam_106 ⟨(Nat.le_of_ble_eq_true rfl), (Nat.le_of_ble_eq_true rfl)⟩) g hK (by decide) (by decide) (fx' := [(6, 3, q2_, .int x_3), (2, 0, a0_, .ref q0_), (2, 1, a0_, .ref q1_), (2, 5, a0_, .ref q2_), (5, 1, q1_, .ref q3_), (8, 8, q0_, .int y1_)]) rfl (fun r_13 fr_13 H locs hp hMr_13 g => ?_)
  have hF_14 := hp
  have g := g.more hF_14
  refine lv_istore (lv' := [(5, .int r_13), (4, .int x_3), (2, .long r_2), (1, .int r_1), (0, .ref a0_)]) hx hb dX2_readParam_109 hl (by decide) rfl (fun ls hl => ?_)
  refine lv_aload_n hx hb dX2_readParam_111 rfl (lv_at hl 4 rfl) ?_
  refine g_getk (C := RX2) (T := TX2) (N := 16) hx hb hts (mc_ inX2) hown hK g rfl 0 (by decide) rfl (hts _ (List.mem_cons_of_mem _ t_416)) (fun _ h9 => h9) 2 rfl dX2_readParam_112 ?_
  refine lv_sipush (v := 200) hx hb dX2_readParam_115 (by decide) ?_
  refine g_callv (va_runV (As := [.int 200]) (rest := []) ⟨hx, hb, hml, hown, hts⟩ (r_X8_take_2 l dC dI L kd tys fr_13 H.size g.2.2.2.1 q0_ mq0_ kq0_ 200 1201 kb_1201 y1_ by1_ (g.fcts [0, 6] rfl)) (cwV 1 hts (gV_ t_1098 t_1099 t_1100 t_184 t_1101) rfl rfl rfl (by decide +kernel) ⟨(Nat.le_of_ble_eq_true rfl), (Nat.le_of_ble_eq_true rfl)⟩) (pre3V g hK mq0_ kq0_ (by decide) (q := (RX8, TX8, 10)) rfl) rfl rfl hl.1 rfl (lv_room (Nat.le_of_ble_eq_true rfl)) dX2_readParam_118 ⟨(Nat.le_of_ble_eq_true rfl), (Nat.le_of_ble_eq_true rfl)⟩) g hK (by decide) (by decide) (fx' := [(6, 3, q2_, .int x_3), (2, 0, a0_, .ref q0_), (2, 1, a0_, .ref q1_), (2, 5, a0_, .ref q2_), (5, 1, q1_, .ref q3_), (8, 8, q0_, .int y1_)]) rfl (fun fr_15 H locs hp hMr_15 g => ?_)
  obtain ⟨x_16, h_17, hF_18⟩ := hp
  have g := g.more hF_18
  refine lv_aload_n hx hb dX2_readParam_121 rfl (lv_at hl 4 rfl) ?_
  refine lv_iload hx hb dX2_readParam_122 (lv_at hl 0 rfl) ?_
  refine g_calli (va_runV (As := [.int r_13]) (rest := []) ⟨hx, hb, hml, hown, hts⟩ (r_X2_readNumber_2 l dC dI L kd tys fr_15 H.size g.2.2.2.1 a0_ ma0_ ka0_ r_13 q0_ mq0_ kq0_ x_16 h_17 y1_ by1_ (g.fcts [2, 0, 6] rfl)) (cwV 1 hts (gV_ t_1160 t_1162 t_11 t_183 t_1163) rfl rfl rfl (by decide +kernel) ⟨(Nat.le_of_ble_eq_true rfl), (Nat.le_of_ble_eq_true rfl)⟩) (pre3V g hK ma0_ ka0_ (by decide) (q := (RX2, TX2, 16)) rfl) rfl rfl hl.1 rfl (lv_room (Nat.le_of_ble_eq_true rfl)) dX2_readParam_124 ⟨(Nat.le_of_ble_eq_true rfl), (Nat.le_of_ble_eq_true rfl)⟩) g hK (by decide) (by decide) (fx' := [(6, 3, q2_, .int x_3), (2, 0, a0_, .ref q0_), (2, 1, a0_, .ref q1_), (2, 5, a0_, .ref q2_), (5, 1, q1_, .ref q3_), (8, 8, q0_, .int y1_)]) rfl (fun r_19 fr_19 H locs hp hMr_19 g => ?_)
  have hF_20 := hp
  have g := g.more hF_20
  refine lv_istore (lv' := [(6, .int r_19), (5, .int r_13), (4, .int x_3), (2, .long r_2), (1, .int r_1), (0, .ref a0_)]) hx hb dX2_readParam_127 hl (by decide) rfl (fun ls hl => ?_)
  refine lv_aload_n hx hb dX2_readParam_129 rfl (lv_at hl 5 rfl) ?_
  refine g_getk (C := RX2) (T := TX2) (N := 16) hx hb hts (mc_ inX2) hown hK g rfl 0 (by decide) rfl (hts _ (List.mem_cons_of_mem _ t_416)) (fun _ h9 => h9) 2 rfl dX2_readParam_130 ?_
  refine g_getk (C := RX8) (T := TX8) (N := 10) hx hb hts (mc_ inX8) hown hK g rfl 8 (by decide) rfl (hts _ (List.mem_cons_of_mem _ t_294)) (fun _ h9 => h9) 6 rfl dX2_readParam_133 ?_
  have kb_0 : bd 0 0 (0 : Int32) := ⟨by decide, by decide⟩
  refine lv_if_ne (tgt := 202) hx hb dX2_readParam_136 (by decide) (fun c_21 => ?_) (fun c_21 => ?_)
  · have fc_21 := neq_f c_21
    subst hQ
    exact W.vret hx hb hr (fun t ht hW => ⟨⟨_, rfl, (g.fcts [0] rfl), q3_of g hK ht hW⟩, g.2.2.1.F ht⟩) g.2.2.1.2.2 dX2_readParam_202
  · have fc_21 := eq_f c_21
    have b_22 : bd 1 0 y1_ := eqX fc_21 by1_ kb_0 (by decide)
    exact bd_no b_22 (by decide)
set_option maxHeartbeats 4000000 in
set_option maxRecDepth 100000 in
theorem r_X2_beginTelling_2 (l : Launch) (dC : Nat → ClassId) (dI : Nat → Nat → Nat) (L : List Nat) (kd : Nat → Nat) (tys : List (ClassId × FieldType)) (f0 : Nat → va_E) (sz : Nat) (hWT : WT L kd tys f0) (a0_ : Nat) (ma0_ : a0_ ∈ L) (ka0_ : kd a0_ = 2) (x1_ : Int64) (x2_ : Int32) (x3_ : Int32) (bx3_ : bd (-1) (-1) x3_) (q0_ : Nat) (mq0_ : q0_ ∈ L) (kq0_ : kd q0_ = 8) (q1_ : Nat) (mq1_ : q1_ ∈ L) (kq1_ : kd q1_ = 7) (q2_ : Nat) (mq2_ : q2_ ∈ L) (kq2_ : kd q2_ = 9) (y0_ : Int32) (by0_ : bd 0 11 y0_) (y1_ : Int32) (by1_ : bd 0 0 y1_) (hfx : Fs L kd f0 [(2, 0, a0_, .ref q0_), (2, 3, a0_, .ref q1_), (2, 4, a0_, .ref q2_), (9, 8, q2_, .int y0_), (8, 8, q0_, .int y1_)]) : Met l yX2_beginTelling (.code yX2_beginTelling cX2_beginTelling 7 none :: lw_g) ({ frames := 1, cells := 0, slots := 0, locals := 14 }) (va_Pc [.ref a0_, .long x1_, .int x2_, .int x3_] (P3 (dC, dI) L tys f0 sz)) (va_Qv (fun (f : Nat → va_E) => (∃ z1_ : Int32, bd 1 12 z1_ ∧ ∃ z2_ : Nat, (z2_ ∈ L ∧ kd z2_ = 6) ∧ ∃ z3_ : Int32, bd 1 96 z3_ ∧ ∃ z4_ : Int32, bd 0 0 z4_ ∧ Fs L kd f [(2, 6, a0_, .int 0), (9, 8, q2_, .int z1_), (2, 5, a0_, .ref z2_), (7, 3, q1_, .int z3_), (6, 12, z2_, .int z4_)])) (Q3 (dC, dI) L kd tys [(2, 5), (2, 6), (6, 0), (6, 1), (6, 2), (6, 3), (6, 6), (6, 7), (6, 8), (6, 9), (6, 10), (6, 11), (6, 12), (7, 3), (9, 8)] [156] f0 sz) (pA L sz)) 0 0 (pA L sz) := by
  refine Met.ofW (cc := cX2_beginTelling) (maxL := 7) (ret := none) (by decide) rfl ?_
  intro p e s m args below meth c s₁ B hml hv
  obtain ⟨rfl, hsz, hP, hK, hD0⟩ := hv
  have hx := B.exec
  have hb := B.bytes
  have hr := B.returns
  have hts := atoms_spec (ws := (.code yX2_beginTelling cX2_beginTelling 7 none :: lw_g)) B.pre
  have hown : s.vm.findClass RX2 = some m.cls := findClass_of_methodNamed B.named
  have hlocks := B.notSynchronized
  subst hsz
  have g : G3 (dC, dI) L kd tys s f0 [(2, 5), (2, 6), (6, 0), (6, 1), (6, 2), (6, 3), (6, 6), (6, 7), (6, 8), (6, 9), (6, 10), (6, 11), (6, 12), (7, 3), (9, 8)] [156] f0 s.heap [] [(2, 0, a0_, .ref q0_), (2, 3, a0_, .ref q1_), (2, 4, a0_, .ref q2_), (9, 8, q2_, .int y0_), (8, 8, q0_, .int y1_)] := G3.start hP hD0 hWT hfx
  have hl := lv_entry ([.ref a0_, .long x1_, .int x2_, .int x3_]) (n := 7) (Nat.le_of_ble_eq_true rfl)
  rw [lg_entry_eq]
  generalize (lg_sl ([.ref a0_, .long x1_, .int x2_, .int x3_]) ++ List.replicate (7 - (lg_sl ([.ref a0_, .long x1_, .int x2_, .int x3_])).length) Slot.unset).toArray = ls at hl ⊢
  have hl : lv_has ls 7 [(0, .ref a0_), (1, .long x1_), (3, .int x2_), (4, .int x3_)] := hl
  refine W_q (fun Q hQ => ?_)
  refine lv_aload_n hx hb dX2_beginTelling_0 rfl (lv_at hl 0 rfl) ?_
  refine g_getk (C := RX2) (T := TX2) (N := 16) hx hb hts (mc_ inX2) hown hK g rfl 3 (by decide) rfl (hts _ (List.mem_cons_of_mem _ t_419)) (fun _ h9 => h9) 1 rfl dX2_beginTelling_1 ?_
  refine g_geti (C := RX7) (T := TX7) (N := 19) hx hb hts (mc_ inX7) hown hK g mq1_ kq1_ (by decide) rfl 3 (by decide) rfl (hts _ (List.mem_cons_of_mem _ t_638)) (fun _ h9 => h9) rfl dX2_beginTelling_4 (fun x_1 bx_1 g => ?_)
  refine lv_bipush (v := 95) hx hb dX2_beginTelling_7 (by decide) ?_
  have kb_95 : bd 95 95 (95 : Int32) := ⟨by decide, by decide⟩
  refine va_mmin hx hb (hml.trans hl.1.symm) hown (hts _ (List.mem_cons_of_mem _ t_1311)) (hts _ (List.mem_cons_of_mem _ t_998)) (hts _ (List.mem_cons_of_mem _ t_204)) (hts _ (List.mem_cons_of_mem _ t_999)) (Nat.le_of_ble_eq_true rfl) (Nat.le_of_ble_eq_true rfl) (Nat.le_of_ble_eq_true rfl) (Nat.le_of_ble_eq_true rfl) dX2_beginTelling_9 ?_
  refine lv_topi (fun y_2 ey_2 => ?_)
  have ty_2 : y_2.toInt = min x_1.toInt (95 : Int32).toInt := by rw [ey_2]; exact mmin_ok _ _
  have b_3 : bd 0 95 y_2 := min_rg ty_2 bx_1 kb_95 (by decide)
  refine lv_istore (lv' := [(5, .int y_2), (0, .ref a0_), (1, .long x1_), (3, .int x2_), (4, .int x3_)]) hx hb dX2_beginTelling_12 hl (by decide) rfl (fun ls hl => ?_)
  refine lv_aload_n hx hb dX2_beginTelling_14 rfl (lv_at hl 1 rfl) ?_
  refine g_getk (C := RX2) (T := TX2) (N := 16) hx hb hts (mc_ inX2) hown hK g rfl 3 (by decide) rfl (hts _ (List.mem_cons_of_mem _ t_419)) (fun _ h9 => h9) 2 rfl dX2_beginTelling_15 ?_
  refine lv_iload hx hb dX2_beginTelling_18 (lv_at hl 0 rfl) ?_
  refine lv_iconst (v := 1) hx hb dX2_beginTelling_20 (by decide) ?_
  have kb_1 : bd 1 1 (1 : Int32) := ⟨by decide, by decide⟩
  refine lv_iadd hx hb dX2_beginTelling_21 ?_
  refine lv_topi (fun y_4 ey_4 => ?_)
  have ty_4 := add_bd ey_4 b_3 kb_1 (by decide)
  have b_5 : bd 1 96 y_4 := add_rg ty_4 b_3 kb_1 (by decide)
  refine g_put (C := RX7) (T := TX7) (N := 19) hx hb hts (mc_ inX7) tyX7 tyX7_ok nmX7 hown hK g mq1_ kq1_ (by decide) rfl 3 (by decide) (hts _ (List.mem_cons_of_mem _ t_638)) (fun _ h9 => h9) rfl rfl (okV_i (bd_sub b_5 (by decide))) rfl rfl (by decide) (Or.inr (Or.inl (by decide))) (fx' := [(2, 0, a0_, .ref q0_), (2, 3, a0_, .ref q1_), (2, 4, a0_, .ref q2_), (9, 8, q2_, .int y0_), (8, 8, q0_, .int y1_)]) rfl dX2_beginTelling_22 (fun f H locs hM_6 g => ?_)
  refine lv_iload hx hb dX2_beginTelling_25 (lv_at hl 4 rfl) ?_
  refine lv_iconst (v := (-1)) hx hb dX2_beginTelling_27 (by decide) ?_
  have kb_m1 : bd (-1) (-1) ((-1) : Int32) := ⟨by decide, by decide⟩
  refine lv_icmp_ne (tgt := 41) hx hb dX2_beginTelling_28 (by decide) (fun c_7 => ?_) (fun c_7 => ?_)
  · have fc_7 := neq_f c_7
    have b_8 : bd 0 (-2) x3_ := neX fc_7 bx3_ kb_m1 (by decide)
    exact bd_no b_8 (by decide)
  · have fc_7 := eq_f c_7
    refine lv_aload_n hx hb dX2_beginTelling_31 rfl (lv_at hl 1 rfl) ?_
    refine g_getk (C := RX2) (T := TX2) (N := 16) hx hb hts (mc_ inX2) hown hK g rfl 4 (by decide) rfl (hts _ (List.mem_cons_of_mem _ t_420)) (fun _ h9 => h9) 3 rfl dX2_beginTelling_32 ?_
    refine g_getk (C := RX9) (T := TX9) (N := 13) hx hb hts (mc_ inX9) hown hK g rfl 8 (by decide) rfl (hts _ (List.mem_cons_of_mem _ t_502)) (fun _ h9 => h9) 4 rfl dX2_beginTelling_35 ?_
    refine lv_goto (tgt := 43) hx hb dX2_beginTelling_38 (by decide) ?_
    refine lv_istore (lv' := [(6, .int y0_), (5, .int y_2), (0, .ref a0_), (1, .long x1_), (3, .int x2_), (4, .int x3_)]) hx hb dX2_beginTelling_43 hl (by decide) rfl (fun ls hl => ?_)
    refine lv_aload_n hx hb dX2_beginTelling_45 rfl (lv_at hl 2 rfl) ?_
    refine lv_aload_n hx hb dX2_beginTelling_46 rfl (lv_at hl 2 rfl) ?_
    refine g_getk (C := RX2) (T := TX2) (N := 16) hx hb hts (mc_ inX2) hown hK g rfl 3 (by decide) rfl (hts _ (List.mem_cons_of_mem _ t_419)) (fun _ h9 => h9) 2 rfl dX2_beginTelling_47 ?_
    refine g_getr (K := 137) (C := RX7) (T := TX7) (N := 19) hx hb hts (mc_ inX7) hown hK g mq1_ kq1_ (by decide) rfl 2 (by decide) rfl (hts _ (List.mem_cons_of_mem _ t_630)) (fun _ h9 => h9) rfl dX2_beginTelling_50 (fun a_9 ma_9 ka_9 g => ?_)
    refine lv_iload hx hb dX2_beginTelling_53 (lv_at hl 1 rfl) ?_
    refine g_aald hx hb hK g ma_9 ka_9 (by decide) rfl (by decide) (in_bd b_3 (by decide)) dX2_beginTelling_55 (fun a_10 ma_10 ua_10 wa_10 => ?_)
    have ka_10 : kd a_10 = 6 := by omega
    refine g_put (C := RX2) (T := TX2) (N := 16) hx hb hts (mc_ inX2) tyX2 tyX2_ok nmX2 hown hK g ma0_ ka0_ (by decide) rfl 5 (by decide) (hts _ (List.mem_cons_of_mem _ t_421)) (fun _ h9 => h9) rfl rfl (okV_n ma_10 ka_10 (by decide)) rfl rfl (by decide) (Or.inr (Or.inl (by decide))) (fx' := [(7, 2, q1_, .ref a_9), (7, 3, q1_, .int y_4), (2, 0, a0_, .ref q0_), (2, 3, a0_, .ref q1_), (2, 4, a0_, .ref q2_), (9, 8, q2_, .int y0_), (8, 8, q0_, .int y1_)]) rfl dX2_beginTelling_56 (fun f H locs hM_11 g => ?_)
    refine lv_aload_n hx hb dX2_beginTelling_59 rfl (lv_at hl 2 rfl) ?_
    refine g_getk (C := RX2) (T := TX2) (N := 16) hx hb hts (mc_ inX2) hown hK g rfl 5 (by decide) rfl (hts _ (List.mem_cons_of_mem _ t_421)) (fun _ h9 => h9) 0 rfl dX2_beginTelling_60 ?_
    refine lv_lload_n hx hb dX2_beginTelling_63 rfl (lv_at hl 3 rfl) ?_
    refine g_put (C := RX6) (T := TX6) (N := 13) hx hb hts (mc_ inX6) tyX6 tyX6_ok nmX6 hown hK g ma_10 ka_10 (by decide) rfl 0 (by decide) (hts _ (List.mem_cons_of_mem _ t_556)) (fun _ h9 => h9) rfl rfl okV_l rfl rfl (by decide) (Or.inr (Or.inl (by decide))) (fx' := [(2, 5, a0_, .ref a_10), (7, 2, q1_, .ref a_9), (7, 3, q1_, .int y_4), (2, 0, a0_, .ref q0_), (2, 3, a0_, .ref q1_), (2, 4, a0_, .ref q2_), (9, 8, q2_, .int y0_), (8, 8, q0_, .int y1_)]) rfl dX2_beginTelling_64 (fun f H locs hM_12 g => ?_)
    refine lv_aload_n hx hb dX2_beginTelling_67 rfl (lv_at hl 2 rfl) ?_
    refine g_getk (C := RX2) (T := TX2) (N := 16) hx hb hts (mc_ inX2) hown hK g rfl 5 (by decide) rfl (hts _ (List.mem_cons_of_mem _ t_421)) (fun _ h9 => h9) 1 rfl dX2_beginTelling_68 ?_
    refine lv_iload_n hx hb dX2_beginTelling_71 rfl (lv_at hl 4 rfl) ?_
    refine g_put (C := RX6) (T := TX6) (N := 13) hx hb hts (mc_ inX6) tyX6 tyX6_ok nmX6 hown hK g ma_10 ka_10 (by decide) rfl 1 (by decide) (hts _ (List.mem_cons_of_mem _ t_559)) (fun _ h9 => h9) rfl rfl (okV_i (bdT x2_)) rfl rfl (by decide) (Or.inr (Or.inl (by decide))) (fx' := [(6, 0, a_10, .long x1_), (2, 5, a0_, .ref a_10), (7, 2, q1_, .ref a_9), (7, 3, q1_, .int y_4), (2, 0, a0_, .ref q0_), (2, 3, a0_, .ref q1_), (2, 4, a0_, .ref q2_), (9, 8, q2_, .int y0_), (8, 8, q0_, .int y1_)]) rfl dX2_beginTelling_72 (fun f H locs hM_13 g => ?_)
    refine lv_aload_n hx hb dX2_beginTelling_75 rfl (lv_at hl 2 rfl) ?_
    refine g_getk (C := RX2) (T := TX2) (N := 16) hx hb hts (mc_ inX2) hown hK g rfl 5 (by decide) rfl (hts _ (List.mem_cons_of_mem _ t_421)) (fun _ h9 => h9) 2 rfl dX2_beginTelling_76 ?_
    refine lv_aload_n hx hb dX2_beginTelling_79 rfl (lv_at hl 2 rfl) ?_
    refine g_getr (K := 5) (C := RX2) (T := TX2) (N := 16) hx hb hts (mc_ inX2) hown hK g ma0_ ka0_ (by decide) rfl 1 (by decide) rfl (hts _ (List.mem_cons_of_mem _ t_417)) (fun _ h9 => h9) rfl dX2_beginTelling_80 (fun a_14 ma_14 ka_14 g => ?_)
    refine g_geti (C := RX5) (T := TX5) (N := 9) hx hb hts (mc_ inX5) hown hK g ma_14 ka_14 (by decide) rfl 2 (by decide) rfl (hts _ (List.mem_cons_of_mem _ t_333)) (fun _ h9 => h9) rfl dX2_beginTelling_83 (fun x_15 bx_15 g => ?_)
    refine g_put (C := RX6) (T := TX6) (N := 13) hx hb hts (mc_ inX6) tyX6 tyX6_ok nmX6 hown hK g ma_10 ka_10 (by decide) rfl 2 (by decide) (hts _ (List.mem_cons_of_mem _ t_561)) (fun _ h9 => h9) rfl rfl (okV_i (bdT x_15)) rfl rfl (by decide) (Or.inr (Or.inl (by decide))) (fx' := [(5, 2, a_14, .int x_15), (2, 1, a0_, .ref a_14), (6, 1, a_10, .int x2_), (6, 0, a_10, .long x1_), (2, 5, a0_, .ref a_10), (7, 2, q1_, .ref a_9), (7, 3, q1_, .int y_4), (2, 0, a0_, .ref q0_), (2, 3, a0_, .ref q1_), (2, 4, a0_, .ref q2_), (9, 8, q2_, .int y0_), (8, 8, q0_, .int y1_)]) rfl dX2_beginTelling_86 (fun f H locs hM_16 g => ?_)
    refine lv_aload_n hx hb dX2_beginTelling_89 rfl (lv_at hl 2 rfl) ?_
    refine g_getk (C := RX2) (T := TX2) (N := 16) hx hb hts (mc_ inX2) hown hK g rfl 5 (by decide) rfl (hts _ (List.mem_cons_of_mem _ t_421)) (fun _ h9 => h9) 5 rfl dX2_beginTelling_90 ?_
    refine lv_iconst (v := 0) hx hb dX2_beginTelling_93 (by decide) ?_
    have kb_0 : bd 0 0 (0 : Int32) := ⟨by decide, by decide⟩
    refine g_put (C := RX6) (T := TX6) (N := 13) hx hb hts (mc_ inX6) tyX6 tyX6_ok nmX6 hown hK g ma_10 ka_10 (by decide) rfl 3 (by decide) (hts _ (List.mem_cons_of_mem _ t_568)) (fun _ h9 => h9) rfl rfl (okV_i (bd_sub kb_0 (by decide))) rfl rfl (by decide) (Or.inr (Or.inl (by decide))) (fx' := [(6, 2, a_10, .int x_15), (5, 2, a_14, .int x_15), (2, 1, a0_, .ref a_14), (6, 1, a_10, .int x2_), (6, 0, a_10, .long x1_), (2, 5, a0_, .ref a_10), (7, 2, q1_, .ref a_9), (7, 3, q1_, .int y_4), (2, 0, a0_, .ref q0_), (2, 3, a0_, .ref q1_), (2, 4, a0_, .ref q2_), (9, 8, q2_, .int y0_), (8, 8, q0_, .int y1_)]) rfl dX2_beginTelling_94 (fun f H locs hM_17 g => ?_)
    refine lv_aload_n hx hb dX2_beginTelling_97 rfl (lv_at hl 2 rfl) ?_
    refine g_getk (C := RX2) (T := TX2) (N := 16) hx hb hts (mc_ inX2) hown hK g rfl 5 (by decide) rfl (hts _ (List.mem_cons_of_mem _ t_421)) (fun _ h9 => h9) 6 rfl dX2_beginTelling_98 ?_
    refine lv_iconst (v := 0) hx hb dX2_beginTelling_101 (by decide) ?_
    refine g_put (C := RX6) (T := TX6) (N := 13) hx hb hts (mc_ inX6) tyX6 tyX6_ok nmX6 hown hK g ma_10 ka_10 (by decide) rfl 6 (by decide) (hts _ (List.mem_cons_of_mem _ t_578)) (fun _ h9 => h9) rfl rfl (okV_i (bd_sub kb_0 (by decide))) rfl rfl (by decide) (Or.inr (Or.inl (by decide))) (fx' := [(6, 3, a_10, .int 0), (6, 2, a_10, .int x_15), (5, 2, a_14, .int x_15), (2, 1, a0_, .ref a_14), (6, 1, a_10, .int x2_), (6, 0, a_10, .long x1_), (2, 5, a0_, .ref a_10), (7, 2, q1_, .ref a_9), (7, 3, q1_, .int y_4), (2, 0, a0_, .ref q0_), (2, 3, a0_, .ref q1_), (2, 4, a0_, .ref q2_), (9, 8, q2_, .int y0_), (8, 8, q0_, .int y1_)]) rfl dX2_beginTelling_102 (fun f H locs hM_18 g => ?_)
    refine lv_aload_n hx hb dX2_beginTelling_105 rfl (lv_at hl 2 rfl) ?_
    refine g_getk (C := RX2) (T := TX2) (N := 16) hx hb hts (mc_ inX2) hown hK g rfl 5 (by decide) rfl (hts _ (List.mem_cons_of_mem _ t_421)) (fun _ h9 => h9) 7 rfl dX2_beginTelling_106 ?_
    refine lv_iload hx hb dX2_beginTelling_109 (lv_at hl 5 rfl) ?_
    refine lv_iconst (v := (-1)) hx hb dX2_beginTelling_111 (by decide) ?_
    refine lv_icmp_ne (tgt := 119) hx hb dX2_beginTelling_112 (by decide) (fun c_19 => ?_) (fun c_19 => ?_)
    · have fc_19 := neq_f c_19
      have b_20 : bd 0 (-2) x3_ := neX fc_19 bx3_ kb_m1 (by decide)
      exact bd_no b_20 (by decide)
    · have fc_19 := eq_f c_19
      refine lv_iconst (v := (-1)) hx hb dX2_beginTelling_115 (by decide) ?_
      refine lv_goto (tgt := 129) hx hb dX2_beginTelling_116 (by decide) ?_
      refine g_put (C := RX6) (T := TX6) (N := 13) hx hb hts (mc_ inX6) tyX6 tyX6_ok nmX6 hown hK g ma_10 ka_10 (by decide) rfl 7 (by decide) (hts _ (List.mem_cons_of_mem _ t_580)) (fun _ h9 => h9) rfl rfl (okV_i (bd_sub kb_m1 (by decide))) rfl rfl (by decide) (Or.inr (Or.inl (by decide))) (fx' := [(6, 6, a_10, .int 0), (6, 3, a_10, .int 0), (6, 2, a_10, .int x_15), (5, 2, a_14, .int x_15), (2, 1, a0_, .ref a_14), (6, 1, a_10, .int x2_), (6, 0, a_10, .long x1_), (2, 5, a0_, .ref a_10), (7, 2, q1_, .ref a_9), (7, 3, q1_, .int y_4), (2, 0, a0_, .ref q0_), (2, 3, a0_, .ref q1_), (2, 4, a0_, .ref q2_), (9, 8, q2_, .int y0_), (8, 8, q0_, .int y1_)]) rfl dX2_beginTelling_129 (fun f H locs hM_21 g => ?_)
      refine lv_aload_n hx hb dX2_beginTelling_132 rfl (lv_at hl 2 rfl) ?_
      refine g_getk (C := RX2) (T := TX2) (N := 16) hx hb hts (mc_ inX2) hown hK g rfl 5 (by decide) rfl (hts _ (List.mem_cons_of_mem _ t_421)) (fun _ h9 => h9) 8 rfl dX2_beginTelling_133 ?_
      refine lv_iconst (v := 0) hx hb dX2_beginTelling_136 (by decide) ?_
      refine g_put (C := RX6) (T := TX6) (N := 13) hx hb hts (mc_ inX6) tyX6 tyX6_ok nmX6 hown hK g ma_10 ka_10 (by decide) rfl 8 (by decide) (hts _ (List.mem_cons_of_mem _ t_583)) (fun _ h9 => h9) rfl rfl (okV_i (bd_sub kb_0 (by decide))) rfl rfl (by decide) (Or.inr (Or.inl (by decide))) (fx' := [(6, 7, a_10, .int (-1)), (6, 6, a_10, .int 0), (6, 3, a_10, .int 0), (6, 2, a_10, .int x_15), (5, 2, a_14, .int x_15), (2, 1, a0_, .ref a_14), (6, 1, a_10, .int x2_), (6, 0, a_10, .long x1_), (2, 5, a0_, .ref a_10), (7, 2, q1_, .ref a_9), (7, 3, q1_, .int y_4), (2, 0, a0_, .ref q0_), (2, 3, a0_, .ref q1_), (2, 4, a0_, .ref q2_), (9, 8, q2_, .int y0_), (8, 8, q0_, .int y1_)]) rfl dX2_beginTelling_137 (fun f H locs hM_22 g => ?_)
      refine lv_aload_n hx hb dX2_beginTelling_140 rfl (lv_at hl 2 rfl) ?_
      refine g_getk (C := RX2) (T := TX2) (N := 16) hx hb hts (mc_ inX2) hown hK g rfl 5 (by decide) rfl (hts _ (List.mem_cons_of_mem _ t_421)) (fun _ h9 => h9) 9 rfl dX2_beginTelling_141 ?_
      refine lv_aload_n hx hb dX2_beginTelling_144 rfl (lv_at hl 2 rfl) ?_
      refine g_getk (C := RX2) (T := TX2) (N := 16) hx hb hts (mc_ inX2) hown hK g rfl 3 (by decide) rfl (hts _ (List.mem_cons_of_mem _ t_419)) (fun _ h9 => h9) 13 rfl dX2_beginTelling_145 ?_
      refine g_geti (C := RX7) (T := TX7) (N := 19) hx hb hts (mc_ inX7) hown hK g mq1_ kq1_ (by decide) rfl 15 (by decide) rfl (hts _ (List.mem_cons_of_mem _ t_675)) (fun _ h9 => h9) rfl dX2_beginTelling_148 (fun x_23 bx_23 g => ?_)
      refine g_put (C := RX6) (T := TX6) (N := 13) hx hb hts (mc_ inX6) tyX6 tyX6_ok nmX6 hown hK g ma_10 ka_10 (by decide) rfl 9 (by decide) (hts _ (List.mem_cons_of_mem _ t_585)) (fun _ h9 => h9) rfl rfl (okV_i bx_23) rfl rfl (by decide) (Or.inr (Or.inl (by decide))) (fx' := [(7, 15, q1_, .int x_23), (6, 8, a_10, .int 0), (6, 7, a_10, .int (-1)), (6, 6, a_10, .int 0), (6, 3, a_10, .int 0), (6, 2, a_10, .int x_15), (5, 2, a_14, .int x_15), (2, 1, a0_, .ref a_14), (6, 1, a_10, .int x2_), (6, 0, a_10, .long x1_), (2, 5, a0_, .ref a_10), (7, 2, q1_, .ref a_9), (7, 3, q1_, .int y_4), (2, 0, a0_, .ref q0_), (2, 3, a0_, .ref q1_), (2, 4, a0_, .ref q2_), (9, 8, q2_, .int y0_), (8, 8, q0_, .int y1_)]) rfl dX2_beginTelling_151 (fun f H locs hM_24 g => ?_)
      refine lv_aload_n hx hb dX2_beginTelling_154 rfl (lv_at hl 2 rfl) ?_
      refine g_getk (C := RX2) (T := TX2) (N := 16) hx hb hts (mc_ inX2) hown hK g rfl 5 (by decide) rfl (hts _ (List.mem_cons_of_mem _ t_421)) (fun _ h9 => h9) 11 rfl dX2_beginTelling_155 ?_
      refine lv_iconst (v := 0) hx hb dX2_beginTelling_158 (by decide) ?_
      refine g_put (C := RX6) (T := TX6) (N := 13) hx hb hts (mc_ inX6) tyX6 tyX6_ok nmX6 hown hK g ma_10 ka_10 (by decide) rfl 10 (by decide) (hts _ (List.mem_cons_of_mem _ t_588)) (fun _ h9 => h9) rfl rfl (okV_i (bd_sub kb_0 (by decide))) rfl rfl (by decide) (Or.inr (Or.inl (by decide))) (fx' := [(6, 9, a_10, .int x_23), (7, 15, q1_, .int x_23), (6, 8, a_10, .int 0), (6, 7, a_10, .int (-1)), (6, 6, a_10, .int 0), (6, 3, a_10, .int 0), (6, 2, a_10, .int x_15), (5, 2, a_14, .int x_15), (2, 1, a0_, .ref a_14), (6, 1, a_10, .int x2_), (6, 0, a_10, .long x1_), (2, 5, a0_, .ref a_10), (7, 2, q1_, .ref a_9), (7, 3, q1_, .int y_4), (2, 0, a0_, .ref q0_), (2, 3, a0_, .ref q1_), (2, 4, a0_, .ref q2_), (9, 8, q2_, .int y0_), (8, 8, q0_, .int y1_)]) rfl dX2_beginTelling_159 (fun f H locs hM_25 g => ?_)
      refine lv_aload_n hx hb dX2_beginTelling_162 rfl (lv_at hl 2 rfl) ?_
      refine g_getk (C := RX2) (T := TX2) (N := 16) hx hb hts (mc_ inX2) hown hK g rfl 5 (by decide) rfl (hts _ (List.mem_cons_of_mem _ t_421)) (fun _ h9 => h9) 12 rfl dX2_beginTelling_163 ?_
      refine lv_aload_n hx hb dX2_beginTelling_166 rfl (lv_at hl 2 rfl) ?_
      refine g_getk (C := RX2) (T := TX2) (N := 16) hx hb hts (mc_ inX2) hown hK g rfl 3 (by decide) rfl (hts _ (List.mem_cons_of_mem _ t_419)) (fun _ h9 => h9) 16 rfl dX2_beginTelling_167 ?_
      refine g_geti (C := RX7) (T := TX7) (N := 19) hx hb hts (mc_ inX7) hown hK g mq1_ kq1_ (by decide) rfl 13 (by decide) rfl (hts _ (List.mem_cons_of_mem _ t_668)) (fun _ h9 => h9) rfl dX2_beginTelling_170 (fun x_26 bx_26 g => ?_)
      refine g_put (C := RX6) (T := TX6) (N := 13) hx hb hts (mc_ inX6) tyX6 tyX6_ok nmX6 hown hK g ma_10 ka_10 (by decide) rfl 11 (by decide) (hts _ (List.mem_cons_of_mem _ t_589)) (fun _ h9 => h9) rfl rfl (okV_i bx_26) rfl rfl (by decide) (Or.inr (Or.inl (by decide))) (fx' := [(7, 13, q1_, .int x_26), (6, 10, a_10, .int 0), (6, 9, a_10, .int x_23), (7, 15, q1_, .int x_23), (6, 8, a_10, .int 0), (6, 7, a_10, .int (-1)), (6, 6, a_10, .int 0), (6, 3, a_10, .int 0), (6, 2, a_10, .int x_15), (5, 2, a_14, .int x_15), (2, 1, a0_, .ref a_14), (6, 1, a_10, .int x2_), (6, 0, a_10, .long x1_), (2, 5, a0_, .ref a_10), (7, 2, q1_, .ref a_9), (7, 3, q1_, .int y_4), (2, 0, a0_, .ref q0_), (2, 3, a0_, .ref q1_), (2, 4, a0_, .ref q2_), (9, 8, q2_, .int y0_), (8, 8, q0_, .int y1_)]) rfl dX2_beginTelling_173 (fun f H locs hM_27 g => ?_)
      refine lv_aload_n hx hb dX2_beginTelling_176 rfl (lv_at hl 2 rfl) ?_
      refine g_getk (C := RX2) (T := TX2) (N := 16) hx hb hts (mc_ inX2) hown hK g rfl 5 (by decide) rfl (hts _ (List.mem_cons_of_mem _ t_421)) (fun _ h9 => h9) 14 rfl dX2_beginTelling_177 ?_
      refine lv_iconst (v := 0) hx hb dX2_beginTelling_180 (by decide) ?_
      refine g_put (C := RX6) (T := TX6) (N := 13) hx hb hts (mc_ inX6) tyX6 tyX6_ok nmX6 hown hK g ma_10 ka_10 (by decide) rfl 12 (by decide) (hts _ (List.mem_cons_of_mem _ t_591)) (fun _ h9 => h9) rfl rfl (okV_i (bd_sub kb_0 (by decide))) rfl rfl (by decide) (Or.inr (Or.inl (by decide))) (fx' := [(6, 11, a_10, .int x_26), (7, 13, q1_, .int x_26), (6, 10, a_10, .int 0), (6, 9, a_10, .int x_23), (7, 15, q1_, .int x_23), (6, 8, a_10, .int 0), (6, 7, a_10, .int (-1)), (6, 6, a_10, .int 0), (6, 3, a_10, .int 0), (6, 2, a_10, .int x_15), (5, 2, a_14, .int x_15), (2, 1, a0_, .ref a_14), (6, 1, a_10, .int x2_), (6, 0, a_10, .long x1_), (2, 5, a0_, .ref a_10), (7, 2, q1_, .ref a_9), (7, 3, q1_, .int y_4), (2, 0, a0_, .ref q0_), (2, 3, a0_, .ref q1_), (2, 4, a0_, .ref q2_), (9, 8, q2_, .int y0_), (8, 8, q0_, .int y1_)]) rfl dX2_beginTelling_181 (fun f H locs hM_28 g => ?_)
      refine lv_aload_n hx hb dX2_beginTelling_184 rfl (lv_at hl 2 rfl) ?_
      refine g_getk (C := RX2) (T := TX2) (N := 16) hx hb hts (mc_ inX2) hown hK g rfl 4 (by decide) rfl (hts _ (List.mem_cons_of_mem _ t_420)) (fun _ h9 => h9) 20 rfl dX2_beginTelling_185 ?_
      refine g_getr (K := 156) (C := RX9) (T := TX9) (N := 13) hx hb hts (mc_ inX9) hown hK g mq2_ kq2_ (by decide) rfl 9 (by decide) rfl (hts _ (List.mem_cons_of_mem _ t_510)) (fun _ h9 => h9) rfl dX2_beginTelling_188 (fun a_29 ma_29 ka_29 g => ?_)
      refine lv_iload hx hb dX2_beginTelling_191 (lv_at hl 0 rfl) ?_
      refine lv_iload hx hb dX2_beginTelling_193 (lv_at hl 1 rfl) ?_
      refine g_iast hx hb hK g ma_29 ka_29 (by decide) rfl (in_bd by0_ (by decide)) b_3 (by decide) dX2_beginTelling_195 (fun f H locs hM_30 g => ?_)
      refine lv_aload_n hx hb dX2_beginTelling_196 rfl (lv_at hl 2 rfl) ?_
      refine g_getk (C := RX2) (T := TX2) (N := 16) hx hb hts (mc_ inX2) hown hK g rfl 4 (by decide) rfl (hts _ (List.mem_cons_of_mem _ t_420)) (fun _ h9 => h9) 21 rfl dX2_beginTelling_197 ?_
      refine lv_aload_n hx hb dX2_beginTelling_200 rfl (lv_at hl 2 rfl) ?_
      refine g_getk (C := RX2) (T := TX2) (N := 16) hx hb hts (mc_ inX2) hown hK g rfl 4 (by decide) rfl (hts _ (List.mem_cons_of_mem _ t_420)) (fun _ h9 => h9) 21 rfl dX2_beginTelling_201 ?_
      refine g_getk (C := RX9) (T := TX9) (N := 13) hx hb hts (mc_ inX9) hown hK g rfl 8 (by decide) rfl (hts _ (List.mem_cons_of_mem _ t_502)) (fun _ h9 => h9) 22 rfl dX2_beginTelling_204 ?_
      refine lv_iload hx hb dX2_beginTelling_207 (lv_at hl 0 rfl) ?_
      refine lv_iconst (v := 1) hx hb dX2_beginTelling_209 (by decide) ?_
      refine lv_iadd hx hb dX2_beginTelling_210 ?_
      refine lv_topi (fun y_31 ey_31 => ?_)
      have ty_31 := add_bd ey_31 by0_ kb_1 (by decide)
      have b_32 : bd 1 12 y_31 := add_rg ty_31 by0_ kb_1 (by decide)
      refine va_mmax hx hb (hml.trans hl.1.symm) hown (hts _ (List.mem_cons_of_mem _ t_1312)) (hts _ (List.mem_cons_of_mem _ t_1041)) (hts _ (List.mem_cons_of_mem _ t_204)) (hts _ (List.mem_cons_of_mem _ t_1042)) (Nat.le_of_ble_eq_true rfl) (Nat.le_of_ble_eq_true rfl) (Nat.le_of_ble_eq_true rfl) (Nat.le_of_ble_eq_true rfl) dX2_beginTelling_211 ?_
      refine lv_topi (fun y_33 ey_33 => ?_)
      have ty_33 : y_33.toInt = max y0_.toInt y_31.toInt := by rw [ey_33]; exact mmax_ok _ _
      have b_34 : bd 1 12 y_33 := max_rg ty_33 by0_ b_32 (by decide)
      refine g_put (C := RX9) (T := TX9) (N := 13) hx hb hts (mc_ inX9) tyX9 tyX9_ok nmX9 hown hK g mq2_ kq2_ (by decide) rfl 8 (by decide) (hts _ (List.mem_cons_of_mem _ t_502)) (fun _ h9 => h9) rfl rfl (okV_i (bd_sub b_34 (by decide))) rfl rfl (by decide) (Or.inr (Or.inl (by decide))) (fx' := [(9, 9, q2_, .ref a_29), (6, 12, a_10, .int 0), (6, 11, a_10, .int x_26), (7, 13, q1_, .int x_26), (6, 10, a_10, .int 0), (6, 9, a_10, .int x_23), (7, 15, q1_, .int x_23), (6, 8, a_10, .int 0), (6, 7, a_10, .int (-1)), (6, 6, a_10, .int 0), (6, 3, a_10, .int 0), (6, 2, a_10, .int x_15), (5, 2, a_14, .int x_15), (2, 1, a0_, .ref a_14), (6, 1, a_10, .int x2_), (6, 0, a_10, .long x1_), (2, 5, a0_, .ref a_10), (7, 2, q1_, .ref a_9), (7, 3, q1_, .int y_4), (2, 0, a0_, .ref q0_), (2, 3, a0_, .ref q1_), (2, 4, a0_, .ref q2_), (8, 8, q0_, .int y1_)]) rfl dX2_beginTelling_214 (fun f H locs hM_35 g => ?_)
      refine lv_aload_n hx hb dX2_beginTelling_217 rfl (lv_at hl 2 rfl) ?_
      refine lv_iconst (v := 0) hx hb dX2_beginTelling_218 (by decide) ?_
      refine g_put (C := RX2) (T := TX2) (N := 16) hx hb hts (mc_ inX2) tyX2 tyX2_ok nmX2 hown hK g ma0_ ka0_ (by decide) rfl 6 (by decide) (hts _ (List.mem_cons_of_mem _ t_422)) (fun _ h9 => h9) rfl rfl (okV_i (bd_sub kb_0 (by decide))) rfl rfl (by decide) (Or.inr (Or.inl (by decide))) (fx' := [(9, 8, q2_, .int y_33), (9, 9, q2_, .ref a_29), (6, 12, a_10, .int 0), (6, 11, a_10, .int x_26), (7, 13, q1_, .int x_26), (6, 10, a_10, .int 0), (6, 9, a_10, .int x_23), (7, 15, q1_, .int x_23), (6, 8, a_10, .int 0), (6, 7, a_10, .int (-1)), (6, 6, a_10, .int 0), (6, 3, a_10, .int 0), (6, 2, a_10, .int x_15), (5, 2, a_14, .int x_15), (2, 1, a0_, .ref a_14), (6, 1, a_10, .int x2_), (6, 0, a_10, .long x1_), (2, 5, a0_, .ref a_10), (7, 2, q1_, .ref a_9), (7, 3, q1_, .int y_4), (2, 0, a0_, .ref q0_), (2, 3, a0_, .ref q1_), (2, 4, a0_, .ref q2_), (8, 8, q0_, .int y1_)]) rfl dX2_beginTelling_219 (fun f H locs hM_36 g => ?_)
      subst hQ
      exact W.vret hx hb hr (fun t ht hW => ⟨⟨_, rfl, ⟨y_33, b_34, a_10, ⟨ma_10, ka_10⟩, y_4, b_5, 0, kb_0, (g.fcts [0, 1, 18, 20, 3] rfl)⟩, q3_of g hK ht hW⟩, g.2.2.1.F ht⟩) g.2.2.1.2.2 dX2_beginTelling_222
