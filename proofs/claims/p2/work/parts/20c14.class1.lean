set_option maxHeartbeats 4000000 in
set_option maxRecDepth 100000 in
theorem r_X2_findNamed (l : Launch) (dC : Nat → ClassId) (dI : Nat → Nat → Nat) (L : List Nat) (kd : Nat → Nat) (tys : List (ClassId × FieldType)) (f0 : Nat → va_E) (sz : Nat) (hWT : WT L kd tys f0) (a0_ : Nat) (ma0_ : a0_ ∈ L) (ka0_ : kd a0_ = 2) (q0_ : Nat) (mq0_ : q0_ ∈ L) (kq0_ : kd q0_ = 8) (q1_ : Nat) (mq1_ : q1_ ∈ L) (kq1_ : kd q1_ = 5) (q2_ : Nat) (mq2_ : q2_ ∈ L) (kq2_ : kd q2_ = 7) (q3_ : Nat) (mq3_ : q3_ ∈ L) (kq3_ : kd q3_ = 9) (q4_ : Nat) (mq4_ : q4_ ∈ L) (kq4_ : kd q4_ = 9) (hfx : Fs L kd f0 [(2, 0, a0_, .ref q0_), (2, 1, a0_, .ref q1_), (2, 3, a0_, .ref q2_), (2, 4, a0_, .ref q3_), (5, 1, q1_, .ref q4_)]) : Met l yX2_findNamed (.code yX2_findNamed cX2_findNamed 6 (some .boolean) :: lw_g) ({ frames := 2, cells := 0, slots := 0, locals := 46 }) (va_Pc [.ref a0_] (P3 (dC, dI) L tys f0 sz)) (va_Qi (fun (r : Int32) (f : Nat → va_E) => (bd 0 1 r ∧ ∃ z1_ : Int32, bd 1 7 z1_ ∧ Fs L kd f [(8, 6, q0_, .int 1201), (8, 8, q0_, .int z1_)]) ∨ (bd 0 1 r ∧ ∃ z0_ : Int32, bd 0 26 z0_ ∧ ∃ z1_ : Int32, bd 1 1201 z1_ ∧ Fs L kd f [(2, 15, a0_, .int z0_), (8, 6, q0_, .int z1_)])) (Q3 (dC, dI) L kd tys [(2, 12), (2, 13), (2, 14), (2, 15), (8, 6), (8, 8), (8, 9)] [] f0 sz) (pA L sz)) 0 0 (pA L sz) := by
  refine Met.ofW (cc := cX2_findNamed) (maxL := 6) (ret := (some .boolean)) (by decide) rfl ?_
  intro p e s m args below meth c s₁ B hml hv
  obtain ⟨rfl, hsz, hP, hK, hD0⟩ := hv
  have hx := B.exec
  have hb := B.bytes
  have hr := B.returns
  have hts := atoms_spec (ws := (.code yX2_findNamed cX2_findNamed 6 (some .boolean) :: lw_g)) B.pre
  have hown : s.vm.findClass RX2 = some m.cls := findClass_of_methodNamed B.named
  have hlocks := B.notSynchronized
  subst hsz
  have g : G3 (dC, dI) L kd tys s f0 [(2, 12), (2, 13), (2, 14), (2, 15), (8, 6), (8, 8), (8, 9)] [] f0 s.heap [] [(2, 0, a0_, .ref q0_), (2, 1, a0_, .ref q1_), (2, 3, a0_, .ref q2_), (2, 4, a0_, .ref q3_), (5, 1, q1_, .ref q4_)] := G3.start hP hD0 hWT hfx
  have hl := lv_entry ([.ref a0_]) (n := 6) (Nat.le_of_ble_eq_true rfl)
  rw [lg_entry_eq]
  generalize (lg_sl ([.ref a0_]) ++ List.replicate (6 - (lg_sl ([.ref a0_])).length) Slot.unset).toArray = ls at hl ⊢
  have hl : lv_has ls 6 [(0, .ref a0_)] := hl
  refine W_q (fun Q hQ => ?_)
  refine lv_aload_n hx hb dX2_findNamed_0 rfl (lv_at hl 0 rfl) ?_
  refine g_getk (C := RX2) (T := TX2) (N := 16) hx hb hts (mc_ inX2) hown hK g rfl 0 (by decide) rfl (hts _ (List.mem_cons_of_mem _ t_416)) (fun _ h9 => h9) 0 rfl dX2_findNamed_1 ?_
  refine g_calli (va_runV (As := []) (rest := []) ⟨hx, hb, hml, hown, hts⟩ (r_X8_place l dC dI L kd tys f0 s.heap.size g.2.2.2.1 q0_ mq0_ kq0_) (cwV 0 hts (gV_ t_1110 t_1111 t_1112 t_184 t_1113) rfl rfl rfl (by decide +kernel) ⟨(Nat.le_of_ble_eq_true rfl), (Nat.le_of_ble_eq_true rfl)⟩) (pre3V g hK mq0_ kq0_ (by decide) (q := (RX8, TX8, 10)) rfl) rfl rfl hl.1 rfl (lv_room (Nat.le_of_ble_eq_true rfl)) dX2_findNamed_4 ⟨(Nat.le_of_ble_eq_true rfl), (Nat.le_of_ble_eq_true rfl)⟩) g hK (by decide) (by decide) (fx' := [(2, 0, a0_, .ref q0_), (2, 1, a0_, .ref q1_), (2, 3, a0_, .ref q2_), (2, 4, a0_, .ref q3_), (5, 1, q1_, .ref q4_)]) rfl (fun r_1 fr_1 H locs hp hMr_1 g => ?_)
  refine lv_istore_n (lv' := [(1, .int r_1), (0, .ref a0_)]) hx hb dX2_findNamed_7 rfl hl (by decide) rfl (fun ls hl => ?_)
  refine lv_aload_n hx hb dX2_findNamed_8 rfl (lv_at hl 1 rfl) ?_
  refine g_getk (C := RX2) (T := TX2) (N := 16) hx hb hts (mc_ inX2) hown hK g rfl 0 (by decide) rfl (hts _ (List.mem_cons_of_mem _ t_416)) (fun _ h9 => h9) 0 rfl dX2_findNamed_9 ?_
  refine g_calll (va_runV (As := []) (rest := []) ⟨hx, hb, hml, hown, hts⟩ (r_X8_value l dC dI L kd tys fr_1 H.size g.2.2.2.1 q0_ mq0_ kq0_) (cwV 0 hts (gV_ t_1114 t_1115 t_1116 t_184 t_1117) rfl rfl rfl (by decide +kernel) ⟨(Nat.le_of_ble_eq_true rfl), (Nat.le_of_ble_eq_true rfl)⟩) (pre3V g hK mq0_ kq0_ (by decide) (q := (RX8, TX8, 10)) rfl) rfl rfl hl.1 rfl (lv_room (Nat.le_of_ble_eq_true rfl)) dX2_findNamed_12 ⟨(Nat.le_of_ble_eq_true rfl), (Nat.le_of_ble_eq_true rfl)⟩) g hK (by decide) (by decide) (fx' := [(2, 0, a0_, .ref q0_), (2, 1, a0_, .ref q1_), (2, 3, a0_, .ref q2_), (2, 4, a0_, .ref q3_), (5, 1, q1_, .ref q4_)]) rfl (fun r_2 fr_2 H locs hp hMr_2 g => ?_)
  refine lv_lstore_n (lv' := [(2, .long r_2), (1, .int r_1), (0, .ref a0_)]) hx hb dX2_findNamed_15 rfl hl (by decide) rfl (fun ls hl => ?_)
  refine lv_aload_n hx hb dX2_findNamed_16 rfl (lv_at hl 2 rfl) ?_
  refine g_getk (C := RX2) (T := TX2) (N := 16) hx hb hts (mc_ inX2) hown hK g rfl 0 (by decide) rfl (hts _ (List.mem_cons_of_mem _ t_416)) (fun _ h9 => h9) 0 rfl dX2_findNamed_17 ?_
  refine g_callv (va_runV (As := []) (rest := []) ⟨hx, hb, hml, hown, hts⟩ (r_X8_next l dC dI L kd tys fr_2 H.size g.2.2.2.1 q0_ mq0_ kq0_) (cwV 0 hts (gV_ t_1131 t_1103 t_1104 t_184 t_1105) rfl rfl rfl (by decide +kernel) ⟨(Nat.le_of_ble_eq_true rfl), (Nat.le_of_ble_eq_true rfl)⟩) (pre3V g hK mq0_ kq0_ (by decide) (q := (RX8, TX8, 10)) rfl) rfl rfl hl.1 rfl (lv_room (Nat.le_of_ble_eq_true rfl)) dX2_findNamed_20 ⟨(Nat.le_of_ble_eq_true rfl), (Nat.le_of_ble_eq_true rfl)⟩) g hK (by decide) (by decide) (fx' := [(2, 0, a0_, .ref q0_), (2, 1, a0_, .ref q1_), (2, 3, a0_, .ref q2_), (2, 4, a0_, .ref q3_), (5, 1, q1_, .ref q4_)]) rfl (fun fr_3 H locs hp hMr_3 g => ?_)
  obtain ⟨x_4, h_5, hF_6⟩ := hp
  have g := g.more hF_6
  refine lv_aload_n hx hb dX2_findNamed_23 rfl (lv_at hl 2 rfl) ?_
  refine g_getk (C := RX2) (T := TX2) (N := 16) hx hb hts (mc_ inX2) hown hK g rfl 0 (by decide) rfl (hts _ (List.mem_cons_of_mem _ t_416)) (fun _ h9 => h9) 1 rfl dX2_findNamed_24 ?_
  refine g_calli (va_runV (As := []) (rest := []) ⟨hx, hb, hml, hown, hts⟩ (r_X8_atBracket l dC dI L kd tys fr_3 H.size g.2.2.2.1 q0_ mq0_ kq0_) (cwV 0 hts (gV_ t_1358 t_1240 t_1241 t_184 t_1242) rfl rfl rfl (by decide +kernel) ⟨(Nat.le_of_ble_eq_true rfl), (Nat.le_of_ble_eq_true rfl)⟩) (pre3V g hK mq0_ kq0_ (by decide) (q := (RX8, TX8, 10)) rfl) rfl rfl hl.1 rfl (lv_room (Nat.le_of_ble_eq_true rfl)) dX2_findNamed_27 ⟨(Nat.le_of_ble_eq_true rfl), (Nat.le_of_ble_eq_true rfl)⟩) g hK (by decide) (by decide) (fx' := [(8, 6, q0_, .int x_4), (2, 0, a0_, .ref q0_), (2, 1, a0_, .ref q1_), (2, 3, a0_, .ref q2_), (2, 4, a0_, .ref q3_), (5, 1, q1_, .ref q4_)]) rfl (fun r_7 fr_7 H locs hp hMr_7 g => ?_)
  obtain ⟨h_8, -⟩ := hp
  refine lv_istore (lv' := [(4, .int r_7), (2, .long r_2), (1, .int r_1), (0, .ref a0_)]) hx hb dX2_findNamed_30 hl (by decide) rfl (fun ls hl => ?_)
  refine lv_iload hx hb dX2_findNamed_32 (lv_at hl 0 rfl) ?_
  have kb_0 : bd 0 0 (0 : Int32) := ⟨by decide, by decide⟩
  refine lv_if_eq (tgt := 52) hx hb dX2_findNamed_34 (by decide) (fun c_9 => ?_) (fun c_9 => ?_)
  · have fc_9 := eq_f c_9
    have b_10 : bd 0 0 r_7 := eqX fc_9 h_8 kb_0 (by decide)
    refine lv_aload_n hx hb dX2_findNamed_52 rfl (lv_at hl 3 rfl) ?_
    refine g_getk (C := RX2) (T := TX2) (N := 16) hx hb hts (mc_ inX2) hown hK g rfl 1 (by decide) rfl (hts _ (List.mem_cons_of_mem _ t_417)) (fun _ h9 => h9) 2 rfl dX2_findNamed_53 ?_
    refine lv_lload_n hx hb dX2_findNamed_56 rfl (lv_at hl 1 rfl) ?_
    refine g_calli (va_runV (As := [.long r_2]) (rest := []) ⟨hx, hb, hml, hown, hts⟩ (r_X5_placeNamed l dC dI L kd tys fr_7 H.size g.2.2.2.1 q1_ mq1_ kq1_ r_2 q4_ mq4_ kq4_ (g.fcts [5] rfl)) (cwV 1 hts (gV_ t_1317 t_1252 t_1253 t_189 t_1254) rfl rfl rfl (by decide +kernel) ⟨(Nat.le_of_ble_eq_true rfl), (Nat.le_of_ble_eq_true rfl)⟩) (pre3V g hK mq1_ kq1_ (by decide) (q := (RX5, TX5, 9)) rfl) rfl rfl hl.1 rfl (lv_room (Nat.le_of_ble_eq_true rfl)) dX2_findNamed_57 ⟨(Nat.le_of_ble_eq_true rfl), (Nat.le_of_ble_eq_true rfl)⟩) g hK (by decide) (by decide) (fx' := [(8, 6, q0_, .int x_4), (2, 0, a0_, .ref q0_), (2, 1, a0_, .ref q1_), (2, 3, a0_, .ref q2_), (2, 4, a0_, .ref q3_), (5, 1, q1_, .ref q4_)]) rfl (fun r_11 fr_11 H locs hp hMr_11 g => ?_)
    obtain ⟨h_12, -⟩ := hp
    refine lv_istore (lv' := [(5, .int r_11), (4, .int r_7), (2, .long r_2), (1, .int r_1), (0, .ref a0_)]) hx hb dX2_findNamed_60 hl (by decide) rfl (fun ls hl => ?_)
    refine lv_iload hx hb dX2_findNamed_62 (lv_at hl 0 rfl) ?_
    refine lv_iconst (v := (-1)) hx hb dX2_findNamed_64 (by decide) ?_
    have kb_m1 : bd (-1) (-1) ((-1) : Int32) := ⟨by decide, by decide⟩
    refine lv_icmp_ne (tgt := 80) hx hb dX2_findNamed_65 (by decide) (fun c_13 => ?_) (fun c_13 => ?_)
    · have fc_13 := neq_f c_13
      have b_14 : bd 0 26 r_11 := neX fc_13 h_12 kb_m1 (by decide)
      refine lv_iload hx hb dX2_findNamed_80 (lv_at hl 1 rfl) ?_
      refine lv_if_eq (tgt := 125) hx hb dX2_findNamed_82 (by decide) (fun c_15 => ?_) (fun c_15 => ?_)
      · have fc_15 := eq_f c_15
        refine lv_aload_n hx hb dX2_findNamed_125 rfl (lv_at hl 4 rfl) ?_
        refine g_getk (C := RX2) (T := TX2) (N := 16) hx hb hts (mc_ inX2) hown hK g rfl 4 (by decide) rfl (hts _ (List.mem_cons_of_mem _ t_420)) (fun _ h9 => h9) 4 rfl dX2_findNamed_126 ?_
        refine lv_iload hx hb dX2_findNamed_129 (lv_at hl 0 rfl) ?_
        refine g_calli (va_runV (As := [.int r_11]) (rest := []) ⟨hx, hb, hml, hown, hts⟩ (r_X9_isRow l dC dI L kd tys fr_11 H.size g.2.2.2.1 q3_ mq3_ kq3_ r_11) (cwV 1 hts (gV_ t_1392 t_1257 t_1258 t_192 t_1259) rfl rfl rfl (by decide +kernel) ⟨(Nat.le_of_ble_eq_true rfl), (Nat.le_of_ble_eq_true rfl)⟩) (pre3V g hK mq3_ kq3_ (by decide) (q := (RX9, TX9, 13)) rfl) rfl rfl hl.1 rfl (lv_room (Nat.le_of_ble_eq_true rfl)) dX2_findNamed_131 ⟨(Nat.le_of_ble_eq_true rfl), (Nat.le_of_ble_eq_true rfl)⟩) g hK (by decide) (by decide) (fx' := [(8, 6, q0_, .int x_4), (2, 0, a0_, .ref q0_), (2, 1, a0_, .ref q1_), (2, 3, a0_, .ref q2_), (2, 4, a0_, .ref q3_), (5, 1, q1_, .ref q4_)]) rfl (fun r_16 fr_16 H locs hp hMr_16 g => ?_)
        rcases hp with ⟨h_17, -⟩ | ⟨h_18, h_19, x_20, h_21, hF_22⟩
        · obtain rfl : r_16 = 0 := h_17
          refine lv_aload_n hx hb dX2_findNamed_134 rfl (lv_at hl 4 rfl) ?_
          refine g_getk (C := RX2) (T := TX2) (N := 16) hx hb hts (mc_ inX2) hown hK g rfl 0 (by decide) rfl (hts _ (List.mem_cons_of_mem _ t_416)) (fun _ h9 => h9) 1 rfl dX2_findNamed_135 ?_
          refine g_calli (va_runV (As := []) (rest := [.int 0]) ⟨hx, hb, hml, hown, hts⟩ (r_X8_kind l dC dI L kd tys fr_16 H.size g.2.2.2.1 q0_ mq0_ kq0_) (cwV 0 hts (gV_ t_1118 t_1119 t_1120 t_184 t_1121) rfl rfl rfl (by decide +kernel) ⟨(Nat.le_of_ble_eq_true rfl), (Nat.le_of_ble_eq_true rfl)⟩) (pre3V g hK mq0_ kq0_ (by decide) (q := (RX8, TX8, 10)) rfl) rfl rfl hl.1 rfl (lv_room (Nat.le_of_ble_eq_true rfl)) dX2_findNamed_138 ⟨(Nat.le_of_ble_eq_true rfl), (Nat.le_of_ble_eq_true rfl)⟩) g hK (by decide) (by decide) (fx' := [(8, 6, q0_, .int x_4), (2, 0, a0_, .ref q0_), (2, 1, a0_, .ref q1_), (2, 3, a0_, .ref q2_), (2, 4, a0_, .ref q3_), (5, 1, q1_, .ref q4_)]) rfl (fun r_23 fr_23 H locs hp hMr_23 g => ?_)
          refine lv_bipush (v := 91) hx hb dX2_findNamed_141 (by decide) ?_
          have kb_91 : bd 91 91 (91 : Int32) := ⟨by decide, by decide⟩
          refine lv_icmp_ne (tgt := 150) hx hb dX2_findNamed_143 (by decide) (fun c_24 => ?_) (fun c_24 => ?_)
          · have fc_24 := neq_f c_24
            refine lv_iconst (v := 0) hx hb dX2_findNamed_150 (by decide) ?_
            refine lv_icmp_eq (tgt := 163) hx hb dX2_findNamed_151 (by decide) (fun c_ => ?_) (fun c_ => absurd (by decide) c_)
            refine lv_aload_n hx hb dX2_findNamed_163 rfl (lv_at hl 4 rfl) ?_
            refine lv_iload hx hb dX2_findNamed_164 (lv_at hl 0 rfl) ?_
            refine g_put (C := RX2) (T := TX2) (N := 16) hx hb hts (mc_ inX2) tyX2 tyX2_ok nmX2 hown hK g ma0_ ka0_ (by decide) rfl 15 (by decide) (hts _ (List.mem_cons_of_mem _ t_431)) (fun _ h9 => h9) rfl rfl (okV_i (bd_sub b_14 (by decide))) rfl rfl (by decide) (Or.inr (Or.inl (by decide))) (fx' := [(8, 6, q0_, .int x_4), (2, 0, a0_, .ref q0_), (2, 1, a0_, .ref q1_), (2, 3, a0_, .ref q2_), (2, 4, a0_, .ref q3_), (5, 1, q1_, .ref q4_)]) rfl dX2_findNamed_166 (fun f H locs hM_25 g => ?_)
            refine lv_iload hx hb dX2_findNamed_169 (lv_at hl 1 rfl) ?_
            subst hQ
            exact W.zret (v := r_7) hx hb hr (nar_z (bd_sub b_10 (by decide) : bd 0 1 _).1 (bd_sub b_10 (by decide) : bd 0 1 _).2) (fun t ht hW => ⟨⟨_, _, rfl, Or.inr (⟨(bd_sub b_10 (by decide)), r_11, b_14, x_4, h_5, (g.fcts [0, 1] rfl)⟩), q3_of g hK ht hW⟩, g.2.2.1.F ht⟩) g.2.2.1.2.2 dX2_findNamed_171
          · have fc_24 := eq_f c_24
            have b_26 : bd 91 91 r_23 := eqX fc_24 (bdT r_23) kb_91 (by decide)
            refine lv_iconst (v := 1) hx hb dX2_findNamed_146 (by decide) ?_
            refine lv_goto (tgt := 151) hx hb dX2_findNamed_147 (by decide) ?_
            refine lv_icmp_eq (tgt := 163) hx hb dX2_findNamed_151 (by decide) (fun c_ => absurd c_ (by decide)) (fun c_ => ?_)
            refine lv_aload_n hx hb dX2_findNamed_154 rfl (lv_at hl 4 rfl) ?_
            refine g_getk (C := RX2) (T := TX2) (N := 16) hx hb hts (mc_ inX2) hown hK g rfl 0 (by decide) rfl (hts _ (List.mem_cons_of_mem _ t_416)) (fun _ h9 => h9) 1 rfl dX2_findNamed_155 ?_
            refine lv_iconst (v := 5) hx hb dX2_findNamed_158 (by decide) ?_
            refine lv_iload_n hx hb dX2_findNamed_159 rfl (lv_at hl 3 rfl) ?_
            have kb_5 : bd 5 5 (5 : Int32) := ⟨by decide, by decide⟩
            refine g_callv (va_runV (As := [.int 5, .int r_1]) (rest := []) ⟨hx, hb, hml, hown, hts⟩ (r_X8_fail_2 l dC dI L kd tys fr_23 H.size g.2.2.2.1 q0_ mq0_ kq0_ 5 kb_5 r_1) (cwV 2 hts (gV_ t_1122 t_1107 t_1108 t_184 t_1109) rfl rfl rfl (by decide +kernel) ⟨(Nat.le_of_ble_eq_true rfl), (Nat.le_of_ble_eq_true rfl)⟩) (pre3V g hK mq0_ kq0_ (by decide) (q := (RX8, TX8, 10)) rfl) rfl rfl hl.1 rfl (lv_room (Nat.le_of_ble_eq_true rfl)) dX2_findNamed_160 ⟨(Nat.le_of_ble_eq_true rfl), (Nat.le_of_ble_eq_true rfl)⟩) g hK (by decide) (by decide) (fx' := [(2, 0, a0_, .ref q0_), (2, 1, a0_, .ref q1_), (2, 3, a0_, .ref q2_), (2, 4, a0_, .ref q3_), (5, 1, q1_, .ref q4_)]) rfl (fun fr_27 H locs hp hMr_27 g => ?_)
            obtain ⟨x_28, h_29, hF_30⟩ := hp
            have g := g.more hF_30
            refine lv_aload_n hx hb dX2_findNamed_163 rfl (lv_at hl 4 rfl) ?_
            refine lv_iload hx hb dX2_findNamed_164 (lv_at hl 0 rfl) ?_
            refine g_put (C := RX2) (T := TX2) (N := 16) hx hb hts (mc_ inX2) tyX2 tyX2_ok nmX2 hown hK g ma0_ ka0_ (by decide) rfl 15 (by decide) (hts _ (List.mem_cons_of_mem _ t_431)) (fun _ h9 => h9) rfl rfl (okV_i (bd_sub b_14 (by decide))) rfl rfl (by decide) (Or.inr (Or.inl (by decide))) (fx' := [(8, 6, q0_, .int 1201), (8, 8, q0_, .int x_28), (2, 0, a0_, .ref q0_), (2, 1, a0_, .ref q1_), (2, 3, a0_, .ref q2_), (2, 4, a0_, .ref q3_), (5, 1, q1_, .ref q4_)]) rfl dX2_findNamed_166 (fun f H locs hM_31 g => ?_)
            refine lv_iload hx hb dX2_findNamed_169 (lv_at hl 1 rfl) ?_
            subst hQ
            exact W.zret (v := r_7) hx hb hr (nar_z (bd_sub b_10 (by decide) : bd 0 1 _).1 (bd_sub b_10 (by decide) : bd 0 1 _).2) (fun t ht hW => ⟨⟨_, _, rfl, Or.inl ⟨(bd_sub b_10 (by decide)), x_28, h_29, (g.fcts [1, 2] rfl)⟩, q3_of g hK ht hW⟩, g.2.2.1.F ht⟩) g.2.2.1.2.2 dX2_findNamed_171
        · obtain rfl : r_16 = 1 := h_18
          have b_32 : bd 0 9 r_11 := eqX rfl b_14 h_19 (by decide)
          have g := g.more hF_22
          refine lv_aload_n hx hb dX2_findNamed_134 rfl (lv_at hl 4 rfl) ?_
          refine g_getk (C := RX2) (T := TX2) (N := 16) hx hb hts (mc_ inX2) hown hK g rfl 0 (by decide) rfl (hts _ (List.mem_cons_of_mem _ t_416)) (fun _ h9 => h9) 2 rfl dX2_findNamed_135 ?_
          refine g_calli (va_runV (As := []) (rest := [.int 1]) ⟨hx, hb, hml, hown, hts⟩ (r_X8_kind l dC dI L kd tys fr_16 H.size g.2.2.2.1 q0_ mq0_ kq0_) (cwV 0 hts (gV_ t_1118 t_1119 t_1120 t_184 t_1121) rfl rfl rfl (by decide +kernel) ⟨(Nat.le_of_ble_eq_true rfl), (Nat.le_of_ble_eq_true rfl)⟩) (pre3V g hK mq0_ kq0_ (by decide) (q := (RX8, TX8, 10)) rfl) rfl rfl hl.1 rfl (lv_room (Nat.le_of_ble_eq_true rfl)) dX2_findNamed_138 ⟨(Nat.le_of_ble_eq_true rfl), (Nat.le_of_ble_eq_true rfl)⟩) g hK (by decide) (by decide) (fx' := [(9, 2, q3_, .int x_20), (8, 6, q0_, .int x_4), (2, 0, a0_, .ref q0_), (2, 1, a0_, .ref q1_), (2, 3, a0_, .ref q2_), (2, 4, a0_, .ref q3_), (5, 1, q1_, .ref q4_)]) rfl (fun r_33 fr_33 H locs hp hMr_33 g => ?_)
          refine lv_bipush (v := 91) hx hb dX2_findNamed_141 (by decide) ?_
          have kb_91 : bd 91 91 (91 : Int32) := ⟨by decide, by decide⟩
          refine lv_icmp_ne (tgt := 150) hx hb dX2_findNamed_143 (by decide) (fun c_34 => ?_) (fun c_34 => ?_)
          · have fc_34 := neq_f c_34
            refine lv_iconst (v := 0) hx hb dX2_findNamed_150 (by decide) ?_
            refine lv_icmp_eq (tgt := 163) hx hb dX2_findNamed_151 (by decide) (fun c_ => absurd c_ (by decide)) (fun c_ => ?_)
            refine lv_aload_n hx hb dX2_findNamed_154 rfl (lv_at hl 4 rfl) ?_
            refine g_getk (C := RX2) (T := TX2) (N := 16) hx hb hts (mc_ inX2) hown hK g rfl 0 (by decide) rfl (hts _ (List.mem_cons_of_mem _ t_416)) (fun _ h9 => h9) 2 rfl dX2_findNamed_155 ?_
            refine lv_iconst (v := 5) hx hb dX2_findNamed_158 (by decide) ?_
            refine lv_iload_n hx hb dX2_findNamed_159 rfl (lv_at hl 3 rfl) ?_
            have kb_5 : bd 5 5 (5 : Int32) := ⟨by decide, by decide⟩
            refine g_callv (va_runV (As := [.int 5, .int r_1]) (rest := []) ⟨hx, hb, hml, hown, hts⟩ (r_X8_fail_2 l dC dI L kd tys fr_33 H.size g.2.2.2.1 q0_ mq0_ kq0_ 5 kb_5 r_1) (cwV 2 hts (gV_ t_1122 t_1107 t_1108 t_184 t_1109) rfl rfl rfl (by decide +kernel) ⟨(Nat.le_of_ble_eq_true rfl), (Nat.le_of_ble_eq_true rfl)⟩) (pre3V g hK mq0_ kq0_ (by decide) (q := (RX8, TX8, 10)) rfl) rfl rfl hl.1 rfl (lv_room (Nat.le_of_ble_eq_true rfl)) dX2_findNamed_160 ⟨(Nat.le_of_ble_eq_true rfl), (Nat.le_of_ble_eq_true rfl)⟩) g hK (by decide) (by decide) (fx' := [(9, 2, q3_, .int x_20), (2, 0, a0_, .ref q0_), (2, 1, a0_, .ref q1_), (2, 3, a0_, .ref q2_), (2, 4, a0_, .ref q3_), (5, 1, q1_, .ref q4_)]) rfl (fun fr_35 H locs hp hMr_35 g => ?_)
            obtain ⟨x_36, h_37, hF_38⟩ := hp
            have g := g.more hF_38
            refine lv_aload_n hx hb dX2_findNamed_163 rfl (lv_at hl 4 rfl) ?_
            refine lv_iload hx hb dX2_findNamed_164 (lv_at hl 0 rfl) ?_
            refine g_put (C := RX2) (T := TX2) (N := 16) hx hb hts (mc_ inX2) tyX2 tyX2_ok nmX2 hown hK g ma0_ ka0_ (by decide) rfl 15 (by decide) (hts _ (List.mem_cons_of_mem _ t_431)) (fun _ h9 => h9) rfl rfl (okV_i (bd_sub b_32 (by decide))) rfl rfl (by decide) (Or.inr (Or.inl (by decide))) (fx' := [(8, 6, q0_, .int 1201), (8, 8, q0_, .int x_36), (9, 2, q3_, .int x_20), (2, 0, a0_, .ref q0_), (2, 1, a0_, .ref q1_), (2, 3, a0_, .ref q2_), (2, 4, a0_, .ref q3_), (5, 1, q1_, .ref q4_)]) rfl dX2_findNamed_166 (fun f H locs hM_39 g => ?_)
            refine lv_iload hx hb dX2_findNamed_169 (lv_at hl 1 rfl) ?_
            subst hQ
            exact W.zret (v := r_7) hx hb hr (nar_z (bd_sub b_10 (by decide) : bd 0 1 _).1 (bd_sub b_10 (by decide) : bd 0 1 _).2) (fun t ht hW => ⟨⟨_, _, rfl, Or.inl ⟨(bd_sub b_10 (by decide)), x_36, h_37, (g.fcts [1, 2] rfl)⟩, q3_of g hK ht hW⟩, g.2.2.1.F ht⟩) g.2.2.1.2.2 dX2_findNamed_171
          · have fc_34 := eq_f c_34
            have b_40 : bd 91 91 r_33 := eqX fc_34 (bdT r_33) kb_91 (by decide)
            refine lv_iconst (v := 1) hx hb dX2_findNamed_146 (by decide) ?_
            refine lv_goto (tgt := 151) hx hb dX2_findNamed_147 (by decide) ?_
            refine lv_icmp_eq (tgt := 163) hx hb dX2_findNamed_151 (by decide) (fun c_ => ?_) (fun c_ => absurd (by decide) c_)
            refine lv_aload_n hx hb dX2_findNamed_163 rfl (lv_at hl 4 rfl) ?_
            refine lv_iload hx hb dX2_findNamed_164 (lv_at hl 0 rfl) ?_
            refine g_put (C := RX2) (T := TX2) (N := 16) hx hb hts (mc_ inX2) tyX2 tyX2_ok nmX2 hown hK g ma0_ ka0_ (by decide) rfl 15 (by decide) (hts _ (List.mem_cons_of_mem _ t_431)) (fun _ h9 => h9) rfl rfl (okV_i (bd_sub b_32 (by decide))) rfl rfl (by decide) (Or.inr (Or.inl (by decide))) (fx' := [(9, 2, q3_, .int x_20), (8, 6, q0_, .int x_4), (2, 0, a0_, .ref q0_), (2, 1, a0_, .ref q1_), (2, 3, a0_, .ref q2_), (2, 4, a0_, .ref q3_), (5, 1, q1_, .ref q4_)]) rfl dX2_findNamed_166 (fun f H locs hM_41 g => ?_)
            refine lv_iload hx hb dX2_findNamed_169 (lv_at hl 1 rfl) ?_
            subst hQ
            exact W.zret (v := r_7) hx hb hr (nar_z (bd_sub b_10 (by decide) : bd 0 1 _).1 (bd_sub b_10 (by decide) : bd 0 1 _).2) (fun t ht hW => ⟨⟨_, _, rfl, Or.inr (⟨(bd_sub b_10 (by decide)), r_11, (bd_sub b_32 (by decide)), x_4, h_5, (g.fcts [0, 2] rfl)⟩), q3_of g hK ht hW⟩, g.2.2.1.F ht⟩) g.2.2.1.2.2 dX2_findNamed_171
      · have fc_15 := neq_f c_15
        have b_42 : bd 1 (-1) r_7 := neX fc_15 b_10 kb_0 (by decide)
        exact bd_no b_42 (by decide)
    · have fc_13 := eq_f c_13
      have b_43 : bd (-1) (-1) r_11 := eqX fc_13 h_12 kb_m1 (by decide)
      refine lv_aload_n hx hb dX2_findNamed_68 rfl (lv_at hl 4 rfl) ?_
      refine g_getk (C := RX2) (T := TX2) (N := 16) hx hb hts (mc_ inX2) hown hK g rfl 0 (by decide) rfl (hts _ (List.mem_cons_of_mem _ t_416)) (fun _ h9 => h9) 1 rfl dX2_findNamed_69 ?_
      refine lv_iconst (v := 2) hx hb dX2_findNamed_72 (by decide) ?_
      refine lv_iload_n hx hb dX2_findNamed_73 rfl (lv_at hl 3 rfl) ?_
      have kb_2 : bd 2 2 (2 : Int32) := ⟨by decide, by decide⟩
      refine g_callv (va_runV (As := [.int 2, .int r_1]) (rest := []) ⟨hx, hb, hml, hown, hts⟩ (r_X8_fail_3 l dC dI L kd tys fr_11 H.size g.2.2.2.1 q0_ mq0_ kq0_ 2 kb_2 r_1) (cwV 2 hts (gV_ t_1122 t_1107 t_1108 t_184 t_1109) rfl rfl rfl (by decide +kernel) ⟨(Nat.le_of_ble_eq_true rfl), (Nat.le_of_ble_eq_true rfl)⟩) (pre3V g hK mq0_ kq0_ (by decide) (q := (RX8, TX8, 10)) rfl) rfl rfl hl.1 rfl (lv_room (Nat.le_of_ble_eq_true rfl)) dX2_findNamed_74 ⟨(Nat.le_of_ble_eq_true rfl), (Nat.le_of_ble_eq_true rfl)⟩) g hK (by decide) (by decide) (fx' := [(2, 0, a0_, .ref q0_), (2, 1, a0_, .ref q1_), (2, 3, a0_, .ref q2_), (2, 4, a0_, .ref q3_), (5, 1, q1_, .ref q4_)]) rfl (fun fr_44 H locs hp hMr_44 g => ?_)
      obtain ⟨x_45, h_46, hF_47⟩ := hp
      have g := g.more hF_47
      refine lv_goto (tgt := 163) hx hb dX2_findNamed_77 (by decide) ?_
      refine lv_aload_n hx hb dX2_findNamed_163 rfl (lv_at hl 4 rfl) ?_
      refine lv_iload hx hb dX2_findNamed_164 (lv_at hl 0 rfl) ?_
      refine g_put (C := RX2) (T := TX2) (N := 16) hx hb hts (mc_ inX2) tyX2 tyX2_ok nmX2 hown hK g ma0_ ka0_ (by decide) rfl 15 (by decide) (hts _ (List.mem_cons_of_mem _ t_431)) (fun _ h9 => h9) rfl rfl (okV_i (bd_sub b_43 (by decide))) rfl rfl (by decide) (Or.inr (Or.inl (by decide))) (fx' := [(8, 6, q0_, .int 1201), (8, 8, q0_, .int x_45), (2, 0, a0_, .ref q0_), (2, 1, a0_, .ref q1_), (2, 3, a0_, .ref q2_), (2, 4, a0_, .ref q3_), (5, 1, q1_, .ref q4_)]) rfl dX2_findNamed_166 (fun f H locs hM_48 g => ?_)
      refine lv_iload hx hb dX2_findNamed_169 (lv_at hl 1 rfl) ?_
      subst hQ
      exact W.zret (v := r_7) hx hb hr (nar_z (bd_sub b_10 (by decide) : bd 0 1 _).1 (bd_sub b_10 (by decide) : bd 0 1 _).2) (fun t ht hW => ⟨⟨_, _, rfl, Or.inl ⟨(bd_sub b_10 (by decide)), x_45, h_46, (g.fcts [1, 2] rfl)⟩, q3_of g hK ht hW⟩, g.2.2.1.F ht⟩) g.2.2.1.2.2 dX2_findNamed_171
  · have fc_9 := neq_f c_9
    have b_49 : bd 1 1 r_7 := neX fc_9 h_8 kb_0 (by decide)
    refine lv_aload_n hx hb dX2_findNamed_37 rfl (lv_at hl 3 rfl) ?_
    refine g_getk (C := RX2) (T := TX2) (N := 16) hx hb hts (mc_ inX2) hown hK g rfl 3 (by decide) rfl (hts _ (List.mem_cons_of_mem _ t_419)) (fun _ h9 => h9) 3 rfl dX2_findNamed_38 ?_
    refine lv_aload_n hx hb dX2_findNamed_41 rfl (lv_at hl 3 rfl) ?_
    refine g_getk (C := RX2) (T := TX2) (N := 16) hx hb hts (mc_ inX2) hown hK g rfl 4 (by decide) rfl (hts _ (List.mem_cons_of_mem _ t_420)) (fun _ h9 => h9) 4 rfl dX2_findNamed_42 ?_
    refine lv_lload_n hx hb dX2_findNamed_45 rfl (lv_at hl 1 rfl) ?_
    refine g_calli (va_runV (As := [.ref q3_, .long r_2]) (rest := []) ⟨hx, hb, hml, hown, hts⟩ (r_X7_memberNamed l dC dI L kd tys fr_7 H.size g.2.2.2.1 q2_ mq2_ kq2_ q3_ mq3_ kq3_ r_2) (cwV 2 hts (gV_ t_1306 t_1244 t_1245 t_191 t_1246) rfl rfl rfl (by decide +kernel) ⟨(Nat.le_of_ble_eq_true rfl), (Nat.le_of_ble_eq_true rfl)⟩) (pre3V g hK mq2_ kq2_ (by decide) (q := (RX7, TX7, 19)) rfl) rfl rfl hl.1 rfl (lv_room (Nat.le_of_ble_eq_true rfl)) dX2_findNamed_46 ⟨(Nat.le_of_ble_eq_true rfl), (Nat.le_of_ble_eq_true rfl)⟩) g hK (by decide) (by decide) (fx' := [(8, 6, q0_, .int x_4), (2, 0, a0_, .ref q0_), (2, 1, a0_, .ref q1_), (2, 3, a0_, .ref q2_), (2, 4, a0_, .ref q3_), (5, 1, q1_, .ref q4_)]) rfl (fun r_50 fr_50 H locs hp hMr_50 g => ?_)
    obtain ⟨h_51, -⟩ := hp
    refine lv_goto (tgt := 60) hx hb dX2_findNamed_49 (by decide) ?_
    refine lv_istore (lv' := [(5, .int r_50), (4, .int r_7), (2, .long r_2), (1, .int r_1), (0, .ref a0_)]) hx hb dX2_findNamed_60 hl (by decide) rfl (fun ls hl => ?_)
    refine lv_iload hx hb dX2_findNamed_62 (lv_at hl 0 rfl) ?_
    refine lv_iconst (v := (-1)) hx hb dX2_findNamed_64 (by decide) ?_
    have kb_m1 : bd (-1) (-1) ((-1) : Int32) := ⟨by decide, by decide⟩
    refine lv_icmp_ne (tgt := 80) hx hb dX2_findNamed_65 (by decide) (fun c_52 => ?_) (fun c_52 => ?_)
    · have fc_52 := neq_f c_52
      have b_53 : bd 0 11 r_50 := neX fc_52 h_51 kb_m1 (by decide)
      refine lv_iload hx hb dX2_findNamed_80 (lv_at hl 1 rfl) ?_
      refine lv_if_eq (tgt := 125) hx hb dX2_findNamed_82 (by decide) (fun c_54 => ?_) (fun c_54 => ?_)
      · have fc_54 := eq_f c_54
        have b_55 : bd 1 0 r_7 := eqX fc_54 b_49 kb_0 (by decide)
        exact bd_no b_55 (by decide)
      · have fc_54 := neq_f c_54
        refine lv_aload_n hx hb dX2_findNamed_85 rfl (lv_at hl 4 rfl) ?_
        refine lv_bipush (v := 17) hx hb dX2_findNamed_86 (by decide) ?_
        have kb_17 : bd 17 17 (17 : Int32) := ⟨by decide, by decide⟩
        refine g_put (C := RX2) (T := TX2) (N := 16) hx hb hts (mc_ inX2) tyX2 tyX2_ok nmX2 hown hK g ma0_ ka0_ (by decide) rfl 12 (by decide) (hts _ (List.mem_cons_of_mem _ t_428)) (fun _ h9 => h9) rfl rfl (okV_i (bd_sub kb_17 (by decide))) rfl rfl (by decide) (Or.inr (Or.inl (by decide))) (fx' := [(8, 6, q0_, .int x_4), (2, 0, a0_, .ref q0_), (2, 1, a0_, .ref q1_), (2, 3, a0_, .ref q2_), (2, 4, a0_, .ref q3_), (5, 1, q1_, .ref q4_)]) rfl dX2_findNamed_88 (fun f H locs hM_56 g => ?_)
        refine lv_aload_n hx hb dX2_findNamed_91 rfl (lv_at hl 4 rfl) ?_
        refine lv_iload hx hb dX2_findNamed_92 (lv_at hl 0 rfl) ?_
        refine g_put (C := RX2) (T := TX2) (N := 16) hx hb hts (mc_ inX2) tyX2 tyX2_ok nmX2 hown hK g ma0_ ka0_ (by decide) rfl 13 (by decide) (hts _ (List.mem_cons_of_mem _ t_429)) (fun _ h9 => h9) rfl rfl (okV_i (bd_sub b_53 (by decide))) rfl rfl (by decide) (Or.inr (Or.inl (by decide))) (fx' := [(2, 12, a0_, .int 17), (8, 6, q0_, .int x_4), (2, 0, a0_, .ref q0_), (2, 1, a0_, .ref q1_), (2, 3, a0_, .ref q2_), (2, 4, a0_, .ref q3_), (5, 1, q1_, .ref q4_)]) rfl dX2_findNamed_94 (fun f H locs hM_57 g => ?_)
        refine lv_aload_n hx hb dX2_findNamed_97 rfl (lv_at hl 4 rfl) ?_
        refine lv_aload_n hx hb dX2_findNamed_98 rfl (lv_at hl 4 rfl) ?_
        refine g_getk (C := RX2) (T := TX2) (N := 16) hx hb hts (mc_ inX2) hown hK g rfl 3 (by decide) rfl (hts _ (List.mem_cons_of_mem _ t_419)) (fun _ h9 => h9) 5 rfl dX2_findNamed_99 ?_
        refine g_getr (K := 137) (C := RX7) (T := TX7) (N := 19) hx hb hts (mc_ inX7) hown hK g mq2_ kq2_ (by decide) rfl 2 (by decide) rfl (hts _ (List.mem_cons_of_mem _ t_630)) (fun _ h9 => h9) rfl dX2_findNamed_102 (fun a_58 ma_58 ka_58 g => ?_)
        refine lv_aload_n hx hb dX2_findNamed_105 rfl (lv_at hl 4 rfl) ?_
        refine g_getk (C := RX2) (T := TX2) (N := 16) hx hb hts (mc_ inX2) hown hK g rfl 4 (by decide) rfl (hts _ (List.mem_cons_of_mem _ t_420)) (fun _ h9 => h9) 7 rfl dX2_findNamed_106 ?_
        refine g_getr (K := 156) (C := RX9) (T := TX9) (N := 13) hx hb hts (mc_ inX9) hown hK g mq3_ kq3_ (by decide) rfl 9 (by decide) rfl (hts _ (List.mem_cons_of_mem _ t_510)) (fun _ h9 => h9) rfl dX2_findNamed_109 (fun a_59 ma_59 ka_59 g => ?_)
        refine lv_iload hx hb dX2_findNamed_112 (lv_at hl 0 rfl) ?_
        refine g_iald hx hb hK g ma_59 ka_59 (by decide) rfl (in_bd b_53 (by decide)) dX2_findNamed_114 (fun x_60 bx_60 cx_60 => ?_)
        refine g_aald hx hb hK g ma_58 ka_58 (by decide) rfl (by decide) (in_bd bx_60 (by decide)) dX2_findNamed_115 (fun a_61 ma_61 ua_61 wa_61 => ?_)
        have ka_61 : kd a_61 = 6 := by omega
        refine g_geti (C := RX6) (T := TX6) (N := 13) hx hb hts (mc_ inX6) hown hK g ma_61 ka_61 (by decide) rfl 3 (by decide) rfl (hts _ (List.mem_cons_of_mem _ t_568)) (fun _ h9 => h9) rfl dX2_findNamed_116 (fun x_62 bx_62 g => ?_)
        refine g_put (C := RX2) (T := TX2) (N := 16) hx hb hts (mc_ inX2) tyX2 tyX2_ok nmX2 hown hK g ma0_ ka0_ (by decide) rfl 14 (by decide) (hts _ (List.mem_cons_of_mem _ t_430)) (fun _ h9 => h9) rfl rfl (okV_i (bd_sub bx_62 (by decide))) rfl rfl (by decide) (Or.inr (Or.inl (by decide))) (fx' := [(6, 3, a_61, .int x_62), (9, 9, q3_, .ref a_59), (7, 2, q2_, .ref a_58), (2, 13, a0_, .int r_50), (2, 12, a0_, .int 17), (8, 6, q0_, .int x_4), (2, 0, a0_, .ref q0_), (2, 1, a0_, .ref q1_), (2, 3, a0_, .ref q2_), (2, 4, a0_, .ref q3_), (5, 1, q1_, .ref q4_)]) rfl dX2_findNamed_119 (fun f H locs hM_63 g => ?_)
        refine lv_goto (tgt := 163) hx hb dX2_findNamed_122 (by decide) ?_
        refine lv_aload_n hx hb dX2_findNamed_163 rfl (lv_at hl 4 rfl) ?_
        refine lv_iload hx hb dX2_findNamed_164 (lv_at hl 0 rfl) ?_
        refine g_put (C := RX2) (T := TX2) (N := 16) hx hb hts (mc_ inX2) tyX2 tyX2_ok nmX2 hown hK g ma0_ ka0_ (by decide) rfl 15 (by decide) (hts _ (List.mem_cons_of_mem _ t_431)) (fun _ h9 => h9) rfl rfl (okV_i (bd_sub b_53 (by decide))) rfl rfl (by decide) (Or.inr (Or.inl (by decide))) (fx' := [(2, 14, a0_, .int x_62), (6, 3, a_61, .int x_62), (9, 9, q3_, .ref a_59), (7, 2, q2_, .ref a_58), (2, 13, a0_, .int r_50), (2, 12, a0_, .int 17), (8, 6, q0_, .int x_4), (2, 0, a0_, .ref q0_), (2, 1, a0_, .ref q1_), (2, 3, a0_, .ref q2_), (2, 4, a0_, .ref q3_), (5, 1, q1_, .ref q4_)]) rfl dX2_findNamed_166 (fun f H locs hM_64 g => ?_)
        refine lv_iload hx hb dX2_findNamed_169 (lv_at hl 1 rfl) ?_
        subst hQ
        exact W.zret (v := r_7) hx hb hr (nar_z (bd_sub b_49 (by decide) : bd 0 1 _).1 (bd_sub b_49 (by decide) : bd 0 1 _).2) (fun t ht hW => ⟨⟨_, _, rfl, Or.inr (⟨(bd_sub b_49 (by decide)), r_50, (bd_sub b_53 (by decide)), x_4, h_5, (g.fcts [0, 7] rfl)⟩), q3_of g hK ht hW⟩, g.2.2.1.F ht⟩) g.2.2.1.2.2 dX2_findNamed_171
    · have fc_52 := eq_f c_52
      have b_65 : bd (-1) (-1) r_50 := eqX fc_52 h_51 kb_m1 (by decide)
      refine lv_aload_n hx hb dX2_findNamed_68 rfl (lv_at hl 4 rfl) ?_
      refine g_getk (C := RX2) (T := TX2) (N := 16) hx hb hts (mc_ inX2) hown hK g rfl 0 (by decide) rfl (hts _ (List.mem_cons_of_mem _ t_416)) (fun _ h9 => h9) 1 rfl dX2_findNamed_69 ?_
      refine lv_iconst (v := 2) hx hb dX2_findNamed_72 (by decide) ?_
      refine lv_iload_n hx hb dX2_findNamed_73 rfl (lv_at hl 3 rfl) ?_
      have kb_2 : bd 2 2 (2 : Int32) := ⟨by decide, by decide⟩
      refine g_callv (va_runV (As := [.int 2, .int r_1]) (rest := []) ⟨hx, hb, hml, hown, hts⟩ (r_X8_fail_3 l dC dI L kd tys fr_50 H.size g.2.2.2.1 q0_ mq0_ kq0_ 2 kb_2 r_1) (cwV 2 hts (gV_ t_1122 t_1107 t_1108 t_184 t_1109) rfl rfl rfl (by decide +kernel) ⟨(Nat.le_of_ble_eq_true rfl), (Nat.le_of_ble_eq_true rfl)⟩) (pre3V g hK mq0_ kq0_ (by decide) (q := (RX8, TX8, 10)) rfl) rfl rfl hl.1 rfl (lv_room (Nat.le_of_ble_eq_true rfl)) dX2_findNamed_74 ⟨(Nat.le_of_ble_eq_true rfl), (Nat.le_of_ble_eq_true rfl)⟩) g hK (by decide) (by decide) (fx' := [(2, 0, a0_, .ref q0_), (2, 1, a0_, .ref q1_), (2, 3, a0_, .ref q2_), (2, 4, a0_, .ref q3_), (5, 1, q1_, .ref q4_)]) rfl (fun fr_66 H locs hp hMr_66 g => ?_)
      obtain ⟨x_67, h_68, hF_69⟩ := hp
      have g := g.more hF_69
      refine lv_goto (tgt := 163) hx hb dX2_findNamed_77 (by decide) ?_
      refine lv_aload_n hx hb dX2_findNamed_163 rfl (lv_at hl 4 rfl) ?_
      refine lv_iload hx hb dX2_findNamed_164 (lv_at hl 0 rfl) ?_
      refine g_put (C := RX2) (T := TX2) (N := 16) hx hb hts (mc_ inX2) tyX2 tyX2_ok nmX2 hown hK g ma0_ ka0_ (by decide) rfl 15 (by decide) (hts _ (List.mem_cons_of_mem _ t_431)) (fun _ h9 => h9) rfl rfl (okV_i (bd_sub b_65 (by decide))) rfl rfl (by decide) (Or.inr (Or.inl (by decide))) (fx' := [(8, 6, q0_, .int 1201), (8, 8, q0_, .int x_67), (2, 0, a0_, .ref q0_), (2, 1, a0_, .ref q1_), (2, 3, a0_, .ref q2_), (2, 4, a0_, .ref q3_), (5, 1, q1_, .ref q4_)]) rfl dX2_findNamed_166 (fun f H locs hM_70 g => ?_)
      refine lv_iload hx hb dX2_findNamed_169 (lv_at hl 1 rfl) ?_
      subst hQ
      exact W.zret (v := r_7) hx hb hr (nar_z (bd_sub b_49 (by decide) : bd 0 1 _).1 (bd_sub b_49 (by decide) : bd 0 1 _).2) (fun t ht hW => ⟨⟨_, _, rfl, Or.inl ⟨(bd_sub b_49 (by decide)), x_67, h_68, (g.fcts [1, 2] rfl)⟩, q3_of g hK ht hW⟩, g.2.2.1.F ht⟩) g.2.2.1.2.2 dX2_findNamed_171
set_option maxHeartbeats 4000000 in
set_option maxRecDepth 100000 in
theorem r_X3_roomForCall (l : Launch) (dC : Nat → ClassId) (dI : Nat → Nat → Nat) (L : List Nat) (kd : Nat → Nat) (tys : List (ClassId × FieldType)) (f0 : Nat → va_E) (sz : Nat) (hWT : WT L kd tys f0) (a0_ : Nat) (ma0_ : a0_ ∈ L) (ka0_ : kd a0_ = 3) : Met l yX3_roomForCall (.code yX3_roomForCall cX3_roomForCall 1 (some .boolean) :: lw_g) ({ frames := 0, cells := 0, slots := 0, locals := 0 }) (va_Pc [.ref a0_] (P3 (dC, dI) L tys f0 sz)) (va_Qi (fun (r : Int32) (f : Nat → va_E) => (r = 0 ∧ ∃ z0_ : Int32, bd 10 10 z0_ ∧ Fs L kd f [(3, 0, a0_, .int z0_)]) ∨ (r = 1 ∧ ∃ z0_ : Int32, bd 0 9 z0_ ∧ Fs L kd f [(3, 0, a0_, .int z0_)])) (Q3 (dC, dI) L kd tys [] [] f0 sz) (pA L sz)) 0 0 (pA L sz) := by
  refine Met.ofW (cc := cX3_roomForCall) (maxL := 1) (ret := (some .boolean)) (by decide) rfl ?_
  intro p e s m args below meth c s₁ B hml hv
  obtain ⟨rfl, hsz, hP, hK, hD0⟩ := hv
  have hx := B.exec
  have hb := B.bytes
  have hr := B.returns
  have hts := atoms_spec (ws := (.code yX3_roomForCall cX3_roomForCall 1 (some .boolean) :: lw_g)) B.pre
  have hown : s.vm.findClass RX3 = some m.cls := findClass_of_methodNamed B.named
  have hlocks := B.notSynchronized
  subst hsz
  have g : G3 (dC, dI) L kd tys s f0 [] [] f0 s.heap [] [] := G3.start hP hD0 hWT Fs.nil
  have hl := lv_entry ([.ref a0_]) (n := 1) (Nat.le_of_ble_eq_true rfl)
  rw [lg_entry_eq]
  generalize (lg_sl ([.ref a0_]) ++ List.replicate (1 - (lg_sl ([.ref a0_])).length) Slot.unset).toArray = ls at hl ⊢
  have hl : lv_has ls 1 [(0, .ref a0_)] := hl
  refine W_q (fun Q hQ => ?_)
  refine lv_aload_n hx hb dX3_roomForCall_0 rfl (lv_at hl 0 rfl) ?_
  refine g_geti (C := RX3) (T := TX3) (N := 6) hx hb hts (mc_ inX3) hown hK g ma0_ ka0_ (by decide) rfl 0 (by decide) rfl (hts _ (List.mem_cons_of_mem _ t_801)) (fun _ h9 => h9) rfl dX3_roomForCall_1 (fun x_1 bx_1 g => ?_)
  refine lv_bipush (v := 10) hx hb dX3_roomForCall_4 (by decide) ?_
  have kb_10 : bd 10 10 (10 : Int32) := ⟨by decide, by decide⟩
  refine lv_icmp_ge (tgt := 13) hx hb dX3_roomForCall_6 (by decide) (fun c_2 => ?_) (fun c_2 => ?_)
  · have fc_2 := le_f c_2
    have b_3 : bd 10 10 x_1 := leR fc_2 kb_10 bx_1 (by decide)
    refine lv_iconst (v := 0) hx hb dX3_roomForCall_13 (by decide) ?_
    subst hQ
    have kb_0 : bd 0 0 (0 : Int32) := ⟨by decide, by decide⟩
    exact W.zret (v := 0) hx hb hr (nar_z (bd_sub kb_0 (by decide) : bd 0 1 _).1 (bd_sub kb_0 (by decide) : bd 0 1 _).2) (fun t ht hW => ⟨⟨_, _, rfl, Or.inl ⟨rfl, x_1, b_3, (g.fcts [0] rfl)⟩, q3_of g hK ht hW⟩, g.2.2.1.F ht⟩) g.2.2.1.2.2 dX3_roomForCall_14
  · have fc_2 := nle_f c_2
    have b_4 : bd 0 9 x_1 := ltL fc_2 bx_1 kb_10 (by decide)
    refine lv_iconst (v := 1) hx hb dX3_roomForCall_9 (by decide) ?_
    refine lv_goto (tgt := 14) hx hb dX3_roomForCall_10 (by decide) ?_
    subst hQ
    have kb_1 : bd 1 1 (1 : Int32) := ⟨by decide, by decide⟩
    exact W.zret (v := 1) hx hb hr (nar_z (bd_sub kb_1 (by decide) : bd 0 1 _).1 (bd_sub kb_1 (by decide) : bd 0 1 _).2) (fun t ht hW => ⟨⟨_, _, rfl, Or.inr (⟨rfl, x_1, b_4, (g.fcts [0] rfl)⟩), q3_of g hK ht hW⟩, g.2.2.1.F ht⟩) g.2.2.1.2.2 dX3_roomForCall_14
set_option maxHeartbeats 4000000 in
set_option maxRecDepth 100000 in
theorem r_X3_roomForMake (l : Launch) (dC : Nat → ClassId) (dI : Nat → Nat → Nat) (L : List Nat) (kd : Nat → Nat) (tys : List (ClassId × FieldType)) (f0 : Nat → va_E) (sz : Nat) (hWT : WT L kd tys f0) (a0_ : Nat) (ma0_ : a0_ ∈ L) (ka0_ : kd a0_ = 3) : Met l yX3_roomForMake (.code yX3_roomForMake cX3_roomForMake 1 (some .boolean) :: lw_g) ({ frames := 0, cells := 0, slots := 0, locals := 0 }) (va_Pc [.ref a0_] (P3 (dC, dI) L tys f0 sz)) (va_Qi (fun (r : Int32) (f : Nat → va_E) => (r = 0 ∧ True) ∨ (r = 1 ∧ ∃ z0_ : Int32, bd 0 2 z0_ ∧ ∃ z1_ : Int32, bd 0 9 z1_ ∧ Fs L kd f [(3, 4, a0_, .int z0_), (3, 0, a0_, .int z1_)])) (Q3 (dC, dI) L kd tys [] [] f0 sz) (pA L sz)) 0 0 (pA L sz) := by
  refine Met.ofW (cc := cX3_roomForMake) (maxL := 1) (ret := (some .boolean)) (by decide) rfl ?_
  intro p e s m args below meth c s₁ B hml hv
  obtain ⟨rfl, hsz, hP, hK, hD0⟩ := hv
  have hx := B.exec
  have hb := B.bytes
  have hr := B.returns
  have hts := atoms_spec (ws := (.code yX3_roomForMake cX3_roomForMake 1 (some .boolean) :: lw_g)) B.pre
  have hown : s.vm.findClass RX3 = some m.cls := findClass_of_methodNamed B.named
  have hlocks := B.notSynchronized
  subst hsz
  have g : G3 (dC, dI) L kd tys s f0 [] [] f0 s.heap [] [] := G3.start hP hD0 hWT Fs.nil
  have hl := lv_entry ([.ref a0_]) (n := 1) (Nat.le_of_ble_eq_true rfl)
  rw [lg_entry_eq]
  generalize (lg_sl ([.ref a0_]) ++ List.replicate (1 - (lg_sl ([.ref a0_])).length) Slot.unset).toArray = ls at hl ⊢
  have hl : lv_has ls 1 [(0, .ref a0_)] := hl
  refine W_q (fun Q hQ => ?_)
  refine lv_aload_n hx hb dX3_roomForMake_0 rfl (lv_at hl 0 rfl) ?_
  refine g_geti (C := RX3) (T := TX3) (N := 6) hx hb hts (mc_ inX3) hown hK g ma0_ ka0_ (by decide) rfl 0 (by decide) rfl (hts _ (List.mem_cons_of_mem _ t_801)) (fun _ h9 => h9) rfl dX3_roomForMake_1 (fun x_1 bx_1 g => ?_)
  refine lv_bipush (v := 10) hx hb dX3_roomForMake_4 (by decide) ?_
  have kb_10 : bd 10 10 (10 : Int32) := ⟨by decide, by decide⟩
  refine lv_icmp_ge (tgt := 21) hx hb dX3_roomForMake_6 (by decide) (fun c_2 => ?_) (fun c_2 => ?_)
  · have fc_2 := le_f c_2
    have b_3 : bd 10 10 x_1 := leR fc_2 kb_10 bx_1 (by decide)
    refine lv_iconst (v := 0) hx hb dX3_roomForMake_21 (by decide) ?_
    subst hQ
    have kb_0 : bd 0 0 (0 : Int32) := ⟨by decide, by decide⟩
    exact W.zret (v := 0) hx hb hr (nar_z (bd_sub kb_0 (by decide) : bd 0 1 _).1 (bd_sub kb_0 (by decide) : bd 0 1 _).2) (fun t ht hW => ⟨⟨_, _, rfl, Or.inl ⟨rfl, trivial⟩, q3_of g hK ht hW⟩, g.2.2.1.F ht⟩) g.2.2.1.2.2 dX3_roomForMake_22
  · have fc_2 := nle_f c_2
    have b_4 : bd 0 9 x_1 := ltL fc_2 bx_1 kb_10 (by decide)
    refine lv_aload_n hx hb dX3_roomForMake_9 rfl (lv_at hl 0 rfl) ?_
    refine g_geti (C := RX3) (T := TX3) (N := 6) hx hb hts (mc_ inX3) hown hK g ma0_ ka0_ (by decide) rfl 4 (by decide) rfl (hts _ (List.mem_cons_of_mem _ t_813)) (fun _ h9 => h9) rfl dX3_roomForMake_10 (fun x_5 bx_5 g => ?_)
    refine lv_iconst (v := 3) hx hb dX3_roomForMake_13 (by decide) ?_
    have kb_3 : bd 3 3 (3 : Int32) := ⟨by decide, by decide⟩
    refine lv_icmp_ge (tgt := 21) hx hb dX3_roomForMake_14 (by decide) (fun c_6 => ?_) (fun c_6 => ?_)
    · have fc_6 := le_f c_6
      have b_7 : bd 3 3 x_5 := leR fc_6 kb_3 bx_5 (by decide)
      refine lv_iconst (v := 0) hx hb dX3_roomForMake_21 (by decide) ?_
      subst hQ
      have kb_0 : bd 0 0 (0 : Int32) := ⟨by decide, by decide⟩
      exact W.zret (v := 0) hx hb hr (nar_z (bd_sub kb_0 (by decide) : bd 0 1 _).1 (bd_sub kb_0 (by decide) : bd 0 1 _).2) (fun t ht hW => ⟨⟨_, _, rfl, Or.inl ⟨rfl, trivial⟩, q3_of g hK ht hW⟩, g.2.2.1.F ht⟩) g.2.2.1.2.2 dX3_roomForMake_22
    · have fc_6 := nle_f c_6
      have b_8 : bd 0 2 x_5 := ltL fc_6 bx_5 kb_3 (by decide)
      refine lv_iconst (v := 1) hx hb dX3_roomForMake_17 (by decide) ?_
      refine lv_goto (tgt := 22) hx hb dX3_roomForMake_18 (by decide) ?_
      subst hQ
      have kb_1 : bd 1 1 (1 : Int32) := ⟨by decide, by decide⟩
      exact W.zret (v := 1) hx hb hr (nar_z (bd_sub kb_1 (by decide) : bd 0 1 _).1 (bd_sub kb_1 (by decide) : bd 0 1 _).2) (fun t ht hW => ⟨⟨_, _, rfl, Or.inr (⟨rfl, x_5, b_8, x_1, b_4, (g.fcts [0, 1] rfl)⟩), q3_of g hK ht hW⟩, g.2.2.1.F ht⟩) g.2.2.1.2.2 dX3_roomForMake_22
set_option maxHeartbeats 4000000 in
set_option maxRecDepth 100000 in
theorem r_X3_wipe (l : Launch) (dC : Nat → ClassId) (dI : Nat → Nat → Nat) (L : List Nat) (kd : Nat → Nat) (tys : List (ClassId × FieldType)) (f0 : Nat → va_E) (sz : Nat) (hWT : WT L kd tys f0) (a0_ : Nat) (ma0_ : a0_ ∈ L) (ka0_ : kd a0_ = 3) : Met l yX3_wipe (.code yX3_wipe cX3_wipe 1 none :: lw_g) ({ frames := 0, cells := 0, slots := 0, locals := 0 }) (va_Pc [.ref a0_] (P3 (dC, dI) L tys f0 sz)) (va_Qv (fun (f : Nat → va_E) => (Fs L kd f [(3, 4, a0_, .int 0), (3, 0, a0_, .int 0)])) (Q3 (dC, dI) L kd tys [(3, 0), (3, 4)] [] f0 sz) (pA L sz)) 0 0 (pA L sz) := by
  refine Met.ofW (cc := cX3_wipe) (maxL := 1) (ret := none) (by decide) rfl ?_
  intro p e s m args below meth c s₁ B hml hv
  obtain ⟨rfl, hsz, hP, hK, hD0⟩ := hv
  have hx := B.exec
  have hb := B.bytes
  have hr := B.returns
  have hts := atoms_spec (ws := (.code yX3_wipe cX3_wipe 1 none :: lw_g)) B.pre
  have hown : s.vm.findClass RX3 = some m.cls := findClass_of_methodNamed B.named
  have hlocks := B.notSynchronized
  subst hsz
  have g : G3 (dC, dI) L kd tys s f0 [(3, 0), (3, 4)] [] f0 s.heap [] [] := G3.start hP hD0 hWT Fs.nil
  have hl := lv_entry ([.ref a0_]) (n := 1) (Nat.le_of_ble_eq_true rfl)
  rw [lg_entry_eq]
  generalize (lg_sl ([.ref a0_]) ++ List.replicate (1 - (lg_sl ([.ref a0_])).length) Slot.unset).toArray = ls at hl ⊢
  have hl : lv_has ls 1 [(0, .ref a0_)] := hl
  refine W_q (fun Q hQ => ?_)
  refine lv_aload_n hx hb dX3_wipe_0 rfl (lv_at hl 0 rfl) ?_
  refine lv_iconst (v := 0) hx hb dX3_wipe_1 (by decide) ?_
  have kb_0 : bd 0 0 (0 : Int32) := ⟨by decide, by decide⟩
  refine g_put (C := RX3) (T := TX3) (N := 6) hx hb hts (mc_ inX3) tyX3 tyX3_ok nmX3 hown hK g ma0_ ka0_ (by decide) rfl 0 (by decide) (hts _ (List.mem_cons_of_mem _ t_801)) (fun _ h9 => h9) rfl rfl (okV_i (bd_sub kb_0 (by decide))) rfl rfl (by decide) (Or.inr (Or.inl (by decide))) (fx' := []) rfl dX3_wipe_2 (fun f H locs hM_1 g => ?_)
  refine lv_aload_n hx hb dX3_wipe_5 rfl (lv_at hl 0 rfl) ?_
  refine lv_iconst (v := 0) hx hb dX3_wipe_6 (by decide) ?_
  refine g_put (C := RX3) (T := TX3) (N := 6) hx hb hts (mc_ inX3) tyX3 tyX3_ok nmX3 hown hK g ma0_ ka0_ (by decide) rfl 4 (by decide) (hts _ (List.mem_cons_of_mem _ t_813)) (fun _ h9 => h9) rfl rfl (okV_i (bd_sub kb_0 (by decide))) rfl rfl (by decide) (Or.inr (Or.inl (by decide))) (fx' := [(3, 0, a0_, .int 0)]) rfl dX3_wipe_7 (fun f H locs hM_2 g => ?_)
  subst hQ
  exact W.vret hx hb hr (fun t ht hW => ⟨⟨_, rfl, (g.fcts [0, 1] rfl), q3_of g hK ht hW⟩, g.2.2.1.F ht⟩) g.2.2.1.2.2 dX3_wipe_10
set_option maxHeartbeats 4000000 in
set_option maxRecDepth 100000 in
theorem r_X7_hasMember (l : Launch) (dC : Nat → ClassId) (dI : Nat → Nat → Nat) (L : List Nat) (kd : Nat → Nat) (tys : List (ClassId × FieldType)) (f0 : Nat → va_E) (sz : Nat) (hWT : WT L kd tys f0) (a0_ : Nat) (ma0_ : a0_ ∈ L) (ka0_ : kd a0_ = 7) (x1_ : Int32) (x2_ : Int32) : Met l yX7_hasMember (.code yX7_hasMember cX7_hasMember 3 (some .boolean) :: lw_g) ({ frames := 1, cells := 0, slots := 0, locals := 21 }) (va_Pc [.ref a0_, .int x1_, .int x2_] (P3 (dC, dI) L tys f0 sz)) (va_Qi (fun (r : Int32) (f : Nat → va_E) => (r = 0 ∧ True) ∨ (r = 1 ∧ bd 0 7 x1_ ∧ bd 0 11 x2_ ∧ ∃ z0_ : Int32, bd 1 8 z0_ ∧ Fs L kd f [(7, 1, a0_, .int z0_)])) (Q3 (dC, dI) L kd tys [] [] f0 sz) (pA L sz)) 0 0 (pA L sz) := by
  refine Met.ofW (cc := cX7_hasMember) (maxL := 3) (ret := (some .boolean)) (by decide) rfl ?_
  intro p e s m args below meth c s₁ B hml hv
  obtain ⟨rfl, hsz, hP, hK, hD0⟩ := hv
  have hx := B.exec
  have hb := B.bytes
  have hr := B.returns
  have hts := atoms_spec (ws := (.code yX7_hasMember cX7_hasMember 3 (some .boolean) :: lw_g)) B.pre
  have hown : s.vm.findClass RX7 = some m.cls := findClass_of_methodNamed B.named
  have hlocks := B.notSynchronized
  subst hsz
  have g : G3 (dC, dI) L kd tys s f0 [] [] f0 s.heap [] [] := G3.start hP hD0 hWT Fs.nil
  have hl := lv_entry ([.ref a0_, .int x1_, .int x2_]) (n := 3) (Nat.le_of_ble_eq_true rfl)
  rw [lg_entry_eq]
  generalize (lg_sl ([.ref a0_, .int x1_, .int x2_]) ++ List.replicate (3 - (lg_sl ([.ref a0_, .int x1_, .int x2_])).length) Slot.unset).toArray = ls at hl ⊢
  have hl : lv_has ls 3 [(0, .ref a0_), (1, .int x1_), (2, .int x2_)] := hl
  refine W_q (fun Q hQ => ?_)
  refine lv_aload_n hx hb dX7_hasMember_0 rfl (lv_at hl 0 rfl) ?_
  refine lv_iload_n hx hb dX7_hasMember_1 rfl (lv_at hl 1 rfl) ?_
  refine g_calli (va_runV (As := [.int x1_]) (rest := []) ⟨hx, hb, hml, hown, hts⟩ (r_X7_hasClass l dC dI L kd tys f0 s.heap.size g.2.2.2.1 a0_ ma0_ ka0_ x1_) (cwV 1 hts (gV_ t_1451 t_1281 t_1282 t_191 t_1283) rfl rfl rfl (by decide +kernel) ⟨(Nat.le_of_ble_eq_true rfl), (Nat.le_of_ble_eq_true rfl)⟩) (pre3V g hK ma0_ ka0_ (by decide) (q := (RX7, TX7, 19)) rfl) rfl rfl hl.1 rfl (lv_room (Nat.le_of_ble_eq_true rfl)) dX7_hasMember_2 ⟨(Nat.le_of_ble_eq_true rfl), (Nat.le_of_ble_eq_true rfl)⟩) g hK (by decide) (by decide) (fx' := []) rfl (fun r_1 fr_1 H locs hp hMr_1 g => ?_)
  rcases hp with ⟨h_2, -⟩ | ⟨h_3, h_4, x_5, h_6, hF_7⟩
  · obtain rfl : r_1 = 0 := h_2
    refine lv_if_eq (tgt := 29) hx hb dX7_hasMember_5 (by decide) (fun c_ => ?_) (fun c_ => absurd (by decide) c_)
    refine lv_iconst (v := 0) hx hb dX7_hasMember_29 (by decide) ?_
    subst hQ
    have kb_0 : bd 0 0 (0 : Int32) := ⟨by decide, by decide⟩
    exact W.zret (v := 0) hx hb hr (nar_z (bd_sub kb_0 (by decide) : bd 0 1 _).1 (bd_sub kb_0 (by decide) : bd 0 1 _).2) (fun t ht hW => ⟨⟨_, _, rfl, Or.inl ⟨rfl, trivial⟩, q3_of g hK ht hW⟩, g.2.2.1.F ht⟩) g.2.2.1.2.2 dX7_hasMember_30
  · obtain rfl : r_1 = 1 := h_3
    have b_8 : bd 0 7 x1_ := eqX rfl (bdT x1_) h_4 (by decide)
    have g := g.more hF_7
    refine lv_if_eq (tgt := 29) hx hb dX7_hasMember_5 (by decide) (fun c_ => absurd c_ (by decide)) (fun c_ => ?_)
    refine lv_iload_n hx hb dX7_hasMember_8 rfl (lv_at hl 2 rfl) ?_
    have kb_0 : bd 0 0 (0 : Int32) := ⟨by decide, by decide⟩
    refine lv_if_lt (tgt := 29) hx hb dX7_hasMember_9 (by decide) (fun c_9 => ?_) (fun c_9 => ?_)
    · have fc_9 := lt_f c_9
      have b_10 : bd (-2147483648) (-1) x2_ := ltL fc_9 (bdT x2_) kb_0 (by decide)
      refine lv_iconst (v := 0) hx hb dX7_hasMember_29 (by decide) ?_
      subst hQ
      exact W.zret (v := 0) hx hb hr (nar_z (bd_sub kb_0 (by decide) : bd 0 1 _).1 (bd_sub kb_0 (by decide) : bd 0 1 _).2) (fun t ht hW => ⟨⟨_, _, rfl, Or.inl ⟨rfl, trivial⟩, q3_of g hK ht hW⟩, g.2.2.1.F ht⟩) g.2.2.1.2.2 dX7_hasMember_30
    · have fc_9 := nlt_f c_9
      have b_11 : bd 0 2147483647 x2_ := leR fc_9 kb_0 (bdT x2_) (by decide)
      refine lv_iload_n hx hb dX7_hasMember_12 rfl (lv_at hl 2 rfl) ?_
      refine lv_aload_n hx hb dX7_hasMember_13 rfl (lv_at hl 0 rfl) ?_
      refine g_getr (K := 136) (C := RX7) (T := TX7) (N := 19) hx hb hts (mc_ inX7) hown hK g ma0_ ka0_ (by decide) rfl 0 (by decide) rfl (hts _ (List.mem_cons_of_mem _ t_620)) (fun _ h9 => h9) rfl dX7_hasMember_14 (fun a_12 ma_12 ka_12 g => ?_)
      refine lv_iload_n hx hb dX7_hasMember_17 rfl (lv_at hl 1 rfl) ?_
      refine g_aald hx hb hK g ma_12 ka_12 (by decide) rfl (by decide) (in_bd b_8 (by decide)) dX7_hasMember_18 (fun a_13 ma_13 ua_13 wa_13 => ?_)
      have ka_13 : kd a_13 = 9 := by omega
      refine g_geti (C := RX9) (T := TX9) (N := 13) hx hb hts (mc_ inX9) hown hK g ma_13 ka_13 (by decide) rfl 8 (by decide) rfl (hts _ (List.mem_cons_of_mem _ t_498)) (fun _ h9 => h9) rfl dX7_hasMember_19 (fun x_14 bx_14 g => ?_)
      refine lv_icmp_ge (tgt := 29) hx hb dX7_hasMember_22 (by decide) (fun c_15 => ?_) (fun c_15 => ?_)
      · have fc_15 := le_f c_15
        refine lv_iconst (v := 0) hx hb dX7_hasMember_29 (by decide) ?_
        subst hQ
        exact W.zret (v := 0) hx hb hr (nar_z (bd_sub kb_0 (by decide) : bd 0 1 _).1 (bd_sub kb_0 (by decide) : bd 0 1 _).2) (fun t ht hW => ⟨⟨_, _, rfl, Or.inl ⟨rfl, trivial⟩, q3_of g hK ht hW⟩, g.2.2.1.F ht⟩) g.2.2.1.2.2 dX7_hasMember_30
      · have fc_15 := nle_f c_15
        have b_16 : bd 0 11 x2_ := ltL fc_15 b_11 bx_14 (by decide)
        have b_17 : bd 1 12 x_14 := ltR fc_15 b_11 bx_14 (by decide)
        refine lv_iconst (v := 1) hx hb dX7_hasMember_25 (by decide) ?_
        refine lv_goto (tgt := 30) hx hb dX7_hasMember_26 (by decide) ?_
        subst hQ
        have kb_1 : bd 1 1 (1 : Int32) := ⟨by decide, by decide⟩
        exact W.zret (v := 1) hx hb hr (nar_z (bd_sub kb_1 (by decide) : bd 0 1 _).1 (bd_sub kb_1 (by decide) : bd 0 1 _).2) (fun t ht hW => ⟨⟨_, _, rfl, Or.inr (⟨rfl, b_8, b_16, x_5, h_6, (g.fcts [2] rfl)⟩), q3_of g hK ht hW⟩, g.2.2.1.F ht⟩) g.2.2.1.2.2 dX7_hasMember_30
set_option maxHeartbeats 4000000 in
set_option maxRecDepth 100000 in
theorem r_X3_tellingOf (l : Launch) (dC : Nat → ClassId) (dI : Nat → Nat → Nat) (L : List Nat) (kd : Nat → Nat) (tys : List (ClassId × FieldType)) (f0 : Nat → va_E) (sz : Nat) (hWT : WT L kd tys f0) (a0_ : Nat) (ma0_ : a0_ ∈ L) (ka0_ : kd a0_ = 3) (a1_ : Nat) (ma1_ : a1_ ∈ L) (ka1_ : kd a1_ = 7) (x2_ : Int32) (bx2_ : bd 0 2 x2_) (x3_ : Int32) (bx3_ : bd 0 11 x3_) (y0_ : Int32) (by0_ : bd 1 8 y0_) (y1_ : Int32) (by1_ : bd 1 3 y1_) (hfx : Fs L kd f0 [(7, 1, a1_, .int y0_), (3, 4, a0_, .int y1_)]) : Met l yX3_tellingOf (.code yX3_tellingOf cX3_tellingOf 4 (some (.object "TrialGarden$Telling")) :: lw_g) ({ frames := 0, cells := 0, slots := 0, locals := 0 }) (va_Pc [.ref a0_, .ref a1_, .int x2_, .int x3_] (P3 (dC, dI) L tys f0 sz)) (va_Qr (fun (_ : Nat → va_E) => True) (fun u b t => (b ∈ L ∧ kd b = 6) ∧ Q3 (dC, dI) L kd tys [] [] f0 sz u t) (pA L sz)) 0 0 (pA L sz) := by
  refine Met.ofW (cc := cX3_tellingOf) (maxL := 4) (ret := (some (.object "TrialGarden$Telling"))) (by decide) rfl ?_
  intro p e s m args below meth c s₁ B hml hv
  obtain ⟨rfl, hsz, hP, hK, hD0⟩ := hv
  have hx := B.exec
  have hb := B.bytes
  have hr := B.returns
  have hts := atoms_spec (ws := (.code yX3_tellingOf cX3_tellingOf 4 (some (.object "TrialGarden$Telling")) :: lw_g)) B.pre
  have hown : s.vm.findClass RX3 = some m.cls := findClass_of_methodNamed B.named
  have hlocks := B.notSynchronized
  subst hsz
  have g : G3 (dC, dI) L kd tys s f0 [] [] f0 s.heap [] [(7, 1, a1_, .int y0_), (3, 4, a0_, .int y1_)] := G3.start hP hD0 hWT hfx
  have hl := lv_entry ([.ref a0_, .ref a1_, .int x2_, .int x3_]) (n := 4) (Nat.le_of_ble_eq_true rfl)
  rw [lg_entry_eq]
  generalize (lg_sl ([.ref a0_, .ref a1_, .int x2_, .int x3_]) ++ List.replicate (4 - (lg_sl ([.ref a0_, .ref a1_, .int x2_, .int x3_])).length) Slot.unset).toArray = ls at hl ⊢
  have hl : lv_has ls 4 [(0, .ref a0_), (1, .ref a1_), (2, .int x2_), (3, .int x3_)] := hl
  refine W_q (fun Q hQ => ?_)
  refine lv_aload_n hx hb dX3_tellingOf_0 rfl (lv_at hl 1 rfl) ?_
  refine g_getr (K := 137) (C := RX7) (T := TX7) (N := 19) hx hb hts (mc_ inX7) hown hK g ma1_ ka1_ (by decide) rfl 2 (by decide) rfl (hts _ (List.mem_cons_of_mem _ t_631)) (fun _ h9 => h9) rfl dX3_tellingOf_1 (fun a_1 ma_1 ka_1 g => ?_)
  refine lv_aload_n hx hb dX3_tellingOf_4 rfl (lv_at hl 1 rfl) ?_
  refine g_getr (K := 136) (C := RX7) (T := TX7) (N := 19) hx hb hts (mc_ inX7) hown hK g ma1_ ka1_ (by decide) rfl 0 (by decide) rfl (hts _ (List.mem_cons_of_mem _ t_622)) (fun _ h9 => h9) rfl dX3_tellingOf_5 (fun a_2 ma_2 ka_2 g => ?_)
  refine lv_aload_n hx hb dX3_tellingOf_8 rfl (lv_at hl 0 rfl) ?_
  refine g_getr (K := 125) (C := RX3) (T := TX3) (N := 6) hx hb hts (mc_ inX3) hown hK g ma0_ ka0_ (by decide) rfl 5 (by decide) rfl (hts _ (List.mem_cons_of_mem _ t_815)) (fun _ h9 => h9) rfl dX3_tellingOf_9 (fun a_3 ma_3 ka_3 g => ?_)
  refine lv_iload_n hx hb dX3_tellingOf_12 rfl (lv_at hl 2 rfl) ?_
  refine g_iald hx hb hK g ma_3 ka_3 (by decide) rfl (in_bd bx2_ (by decide)) dX3_tellingOf_13 (fun x_4 bx_4 cx_4 => ?_)
  refine g_aald hx hb hK g ma_2 ka_2 (by decide) rfl (by decide) (in_bd bx_4 (by decide)) dX3_tellingOf_14 (fun a_5 ma_5 ua_5 wa_5 => ?_)
  have ka_5 : kd a_5 = 9 := by omega
  refine g_getr (K := 156) (C := RX9) (T := TX9) (N := 13) hx hb hts (mc_ inX9) hown hK g ma_5 ka_5 (by decide) rfl 9 (by decide) rfl (hts _ (List.mem_cons_of_mem _ t_505)) (fun _ h9 => h9) rfl dX3_tellingOf_15 (fun a_6 ma_6 ka_6 g => ?_)
  refine lv_iload_n hx hb dX3_tellingOf_18 rfl (lv_at hl 3 rfl) ?_
  refine g_iald hx hb hK g ma_6 ka_6 (by decide) rfl (in_bd bx3_ (by decide)) dX3_tellingOf_19 (fun x_7 bx_7 cx_7 => ?_)
  refine g_aald hx hb hK g ma_1 ka_1 (by decide) rfl (by decide) (in_bd bx_7 (by decide)) dX3_tellingOf_20 (fun a_8 ma_8 ua_8 wa_8 => ?_)
  have ka_8 : kd a_8 = 6 := by omega
  subst hQ
  exact W.aret (v := .ref a_8) hx hb hr (Or.inl ⟨_, rfl⟩) (Or.inr ⟨_, rfl⟩) (fun t ht hW => ⟨⟨_, _, rfl, trivial, ⟨ma_8, ka_8⟩, q3_of g hK ht hW⟩, g.2.2.1.F ht⟩) g.2.2.1.2.2 dX3_tellingOf_21
set_option maxHeartbeats 4000000 in
set_option maxRecDepth 100000 in
theorem r_X6_admits (l : Launch) (dC : Nat → ClassId) (dI : Nat → Nat → Nat) (L : List Nat) (kd : Nat → Nat) (tys : List (ClassId × FieldType)) (f0 : Nat → va_E) (sz : Nat) (hWT : WT L kd tys f0) (a0_ : Nat) (ma0_ : a0_ ∈ L) (ka0_ : kd a0_ = 6) (x1_ : Int32) (x2_ : Int32) : Met l yX6_admits (.code yX6_admits cX6_admits 3 (some .boolean) :: lw_g) ({ frames := 0, cells := 0, slots := 0, locals := 0 }) (va_Pc [.ref a0_, .int x1_, .int x2_] (P3 (dC, dI) L tys f0 sz)) (va_Qi (fun (r : Int32) (f : Nat → va_E) => (r = 0 ∧ True) ∨ (r = 1 ∧ True)) (Q3 (dC, dI) L kd tys [] [] f0 sz) (pA L sz)) 0 0 (pA L sz) := by
  refine Met.ofW (cc := cX6_admits) (maxL := 3) (ret := (some .boolean)) (by decide) rfl ?_
  intro p e s m args below meth c s₁ B hml hv
  obtain ⟨rfl, hsz, hP, hK, hD0⟩ := hv
  have hx := B.exec
  have hb := B.bytes
  have hr := B.returns
  have hts := atoms_spec (ws := (.code yX6_admits cX6_admits 3 (some .boolean) :: lw_g)) B.pre
  have hown : s.vm.findClass RX6 = some m.cls := findClass_of_methodNamed B.named
  have hlocks := B.notSynchronized
  subst hsz
  have g : G3 (dC, dI) L kd tys s f0 [] [] f0 s.heap [] [] := G3.start hP hD0 hWT Fs.nil
  have hl := lv_entry ([.ref a0_, .int x1_, .int x2_]) (n := 3) (Nat.le_of_ble_eq_true rfl)
  rw [lg_entry_eq]
  generalize (lg_sl ([.ref a0_, .int x1_, .int x2_]) ++ List.replicate (3 - (lg_sl ([.ref a0_, .int x1_, .int x2_])).length) Slot.unset).toArray = ls at hl ⊢
  have hl : lv_has ls 3 [(0, .ref a0_), (1, .int x1_), (2, .int x2_)] := hl
  refine W_q (fun Q hQ => ?_)
  refine lv_iload_n hx hb dX6_admits_0 rfl (lv_at hl 1 rfl) ?_
  have kb_0 : bd 0 0 (0 : Int32) := ⟨by decide, by decide⟩
  refine lv_if_lt (tgt := 17) hx hb dX6_admits_1 (by decide) (fun c_1 => ?_) (fun c_1 => ?_)
  · have fc_1 := lt_f c_1
    have b_2 : bd (-2147483648) (-1) x1_ := ltL fc_1 (bdT x1_) kb_0 (by decide)
    refine lv_iload_n hx hb dX6_admits_17 rfl (lv_at hl 2 rfl) ?_
    refine lv_if_ne (tgt := 25) hx hb dX6_admits_18 (by decide) (fun c_3 => ?_) (fun c_3 => ?_)
    · have fc_3 := neq_f c_3
      refine lv_iconst (v := 0) hx hb dX6_admits_25 (by decide) ?_
      subst hQ
      exact W.zret (v := 0) hx hb hr (nar_z (bd_sub kb_0 (by decide) : bd 0 1 _).1 (bd_sub kb_0 (by decide) : bd 0 1 _).2) (fun t ht hW => ⟨⟨_, _, rfl, Or.inl ⟨rfl, trivial⟩, q3_of g hK ht hW⟩, g.2.2.1.F ht⟩) g.2.2.1.2.2 dX6_admits_26
    · have fc_3 := eq_f c_3
      have b_4 : bd 0 0 x2_ := eqX fc_3 (bdT x2_) kb_0 (by decide)
      refine lv_iconst (v := 1) hx hb dX6_admits_21 (by decide) ?_
      refine lv_goto (tgt := 26) hx hb dX6_admits_22 (by decide) ?_
      subst hQ
      have kb_1 : bd 1 1 (1 : Int32) := ⟨by decide, by decide⟩
      exact W.zret (v := 1) hx hb hr (nar_z (bd_sub kb_1 (by decide) : bd 0 1 _).1 (bd_sub kb_1 (by decide) : bd 0 1 _).2) (fun t ht hW => ⟨⟨_, _, rfl, Or.inr (⟨rfl, trivial⟩), q3_of g hK ht hW⟩, g.2.2.1.F ht⟩) g.2.2.1.2.2 dX6_admits_26
  · have fc_1 := nlt_f c_1
    have b_5 : bd 0 2147483647 x1_ := leR fc_1 kb_0 (bdT x1_) (by decide)
    refine lv_iload_n hx hb dX6_admits_4 rfl (lv_at hl 1 rfl) ?_
    refine lv_aload_n hx hb dX6_admits_5 rfl (lv_at hl 0 rfl) ?_
    refine g_geti (C := RX6) (T := TX6) (N := 13) hx hb hts (mc_ inX6) hown hK g ma0_ ka0_ (by decide) rfl 3 (by decide) rfl (hts _ (List.mem_cons_of_mem _ t_562)) (fun _ h9 => h9) rfl dX6_admits_6 (fun x_6 bx_6 g => ?_)
    refine lv_icmp_ge (tgt := 17) hx hb dX6_admits_9 (by decide) (fun c_7 => ?_) (fun c_7 => ?_)
    · have fc_7 := le_f c_7
      refine lv_iload_n hx hb dX6_admits_17 rfl (lv_at hl 2 rfl) ?_
      refine lv_if_ne (tgt := 25) hx hb dX6_admits_18 (by decide) (fun c_8 => ?_) (fun c_8 => ?_)
      · have fc_8 := neq_f c_8
        refine lv_iconst (v := 0) hx hb dX6_admits_25 (by decide) ?_
        subst hQ
        exact W.zret (v := 0) hx hb hr (nar_z (bd_sub kb_0 (by decide) : bd 0 1 _).1 (bd_sub kb_0 (by decide) : bd 0 1 _).2) (fun t ht hW => ⟨⟨_, _, rfl, Or.inl ⟨rfl, trivial⟩, q3_of g hK ht hW⟩, g.2.2.1.F ht⟩) g.2.2.1.2.2 dX6_admits_26
      · have fc_8 := eq_f c_8
        have b_9 : bd 0 0 x2_ := eqX fc_8 (bdT x2_) kb_0 (by decide)
        refine lv_iconst (v := 1) hx hb dX6_admits_21 (by decide) ?_
        refine lv_goto (tgt := 26) hx hb dX6_admits_22 (by decide) ?_
        subst hQ
        have kb_1 : bd 1 1 (1 : Int32) := ⟨by decide, by decide⟩
        exact W.zret (v := 1) hx hb hr (nar_z (bd_sub kb_1 (by decide) : bd 0 1 _).1 (bd_sub kb_1 (by decide) : bd 0 1 _).2) (fun t ht hW => ⟨⟨_, _, rfl, Or.inr (⟨rfl, trivial⟩), q3_of g hK ht hW⟩, g.2.2.1.F ht⟩) g.2.2.1.2.2 dX6_admits_26
    · have fc_7 := nle_f c_7
      have b_10 : bd 0 2 x1_ := ltL fc_7 b_5 bx_6 (by decide)
      have b_11 : bd 1 3 x_6 := ltR fc_7 b_5 bx_6 (by decide)
      refine lv_iload_n hx hb dX6_admits_12 rfl (lv_at hl 1 rfl) ?_
      refine lv_iconst (v := 3) hx hb dX6_admits_13 (by decide) ?_
      have kb_3 : bd 3 3 (3 : Int32) := ⟨by decide, by decide⟩
      refine lv_icmp_lt (tgt := 27) hx hb dX6_admits_14 (by decide) (fun c_12 => ?_) (fun c_12 => ?_)
      · have fc_12 := lt_f c_12
        refine lv_iload_n hx hb dX6_admits_27 rfl (lv_at hl 2 rfl) ?_
        refine lv_aload_n hx hb dX6_admits_28 rfl (lv_at hl 0 rfl) ?_
        refine g_getr (K := 134) (C := RX6) (T := TX6) (N := 13) hx hb hts (mc_ inX6) hown hK g ma0_ ka0_ (by decide) rfl 4 (by decide) rfl (hts _ (List.mem_cons_of_mem _ t_569)) (fun _ h9 => h9) rfl dX6_admits_29 (fun a_13 ma_13 ka_13 g => ?_)
        refine lv_iload_n hx hb dX6_admits_32 rfl (lv_at hl 1 rfl) ?_
        refine g_iald hx hb hK g ma_13 ka_13 (by decide) rfl (in_bd b_10 (by decide)) dX6_admits_33 (fun x_14 bx_14 cx_14 => ?_)
        refine lv_icmp_lt (tgt := 51) hx hb dX6_admits_34 (by decide) (fun c_15 => ?_) (fun c_15 => ?_)
        · have fc_15 := lt_f c_15
          have b_16 : bd (-2147483648) 2147483646 x2_ := ltL fc_15 (bdT x2_) (bdT x_14) (by decide)
          have b_17 : bd (-2147483647) 2147483647 x_14 := ltR fc_15 (bdT x2_) (bdT x_14) (by decide)
          refine lv_iconst (v := 0) hx hb dX6_admits_51 (by decide) ?_
          subst hQ
          exact W.zret (v := 0) hx hb hr (nar_z (bd_sub kb_0 (by decide) : bd 0 1 _).1 (bd_sub kb_0 (by decide) : bd 0 1 _).2) (fun t ht hW => ⟨⟨_, _, rfl, Or.inl ⟨rfl, trivial⟩, q3_of g hK ht hW⟩, g.2.2.1.F ht⟩) g.2.2.1.2.2 dX6_admits_52
        · have fc_15 := nlt_f c_15
          refine lv_iload_n hx hb dX6_admits_37 rfl (lv_at hl 2 rfl) ?_
          refine lv_aload_n hx hb dX6_admits_38 rfl (lv_at hl 0 rfl) ?_
          refine g_getr (K := 135) (C := RX6) (T := TX6) (N := 13) hx hb hts (mc_ inX6) hown hK g ma0_ ka0_ (by decide) rfl 5 (by decide) rfl (hts _ (List.mem_cons_of_mem _ t_573)) (fun _ h9 => h9) rfl dX6_admits_39 (fun a_18 ma_18 ka_18 g => ?_)
          refine lv_iload_n hx hb dX6_admits_42 rfl (lv_at hl 1 rfl) ?_
          refine g_iald hx hb hK g ma_18 ka_18 (by decide) rfl (in_bd b_10 (by decide)) dX6_admits_43 (fun x_19 bx_19 cx_19 => ?_)
          refine lv_icmp_gt (tgt := 51) hx hb dX6_admits_44 (by decide) (fun c_20 => ?_) (fun c_20 => ?_)
          · have fc_20 := lt_f c_20
            have b_21 : bd (-2147483648) 2147483646 x_19 := ltL fc_20 (bdT x_19) (bdT x2_) (by decide)
            have b_22 : bd (-2147483647) 2147483647 x2_ := ltR fc_20 (bdT x_19) (bdT x2_) (by decide)
            refine lv_iconst (v := 0) hx hb dX6_admits_51 (by decide) ?_
            subst hQ
            exact W.zret (v := 0) hx hb hr (nar_z (bd_sub kb_0 (by decide) : bd 0 1 _).1 (bd_sub kb_0 (by decide) : bd 0 1 _).2) (fun t ht hW => ⟨⟨_, _, rfl, Or.inl ⟨rfl, trivial⟩, q3_of g hK ht hW⟩, g.2.2.1.F ht⟩) g.2.2.1.2.2 dX6_admits_52
          · have fc_20 := nlt_f c_20
            refine lv_iconst (v := 1) hx hb dX6_admits_47 (by decide) ?_
            refine lv_goto (tgt := 52) hx hb dX6_admits_48 (by decide) ?_
            subst hQ
            have kb_1 : bd 1 1 (1 : Int32) := ⟨by decide, by decide⟩
            exact W.zret (v := 1) hx hb hr (nar_z (bd_sub kb_1 (by decide) : bd 0 1 _).1 (bd_sub kb_1 (by decide) : bd 0 1 _).2) (fun t ht hW => ⟨⟨_, _, rfl, Or.inr (⟨rfl, trivial⟩), q3_of g hK ht hW⟩, g.2.2.1.F ht⟩) g.2.2.1.2.2 dX6_admits_52
      · have fc_12 := nlt_f c_12
        have b_23 : bd 3 2 (3 : Int32) := leL fc_12 kb_3 b_10 (by decide)
        exact bd_no (eqX rfl b_23 kb_3 (lo := 3) (hi := 2) (by decide)) (by decide)
set_option maxHeartbeats 4000000 in
set_option maxRecDepth 100000 in
theorem r_X3_mayTake (l : Launch) (dC : Nat → ClassId) (dI : Nat → Nat → Nat) (L : List Nat) (kd : Nat → Nat) (tys : List (ClassId × FieldType)) (f0 : Nat → va_E) (sz : Nat) (hWT : WT L kd tys f0) (a0_ : Nat) (ma0_ : a0_ ∈ L) (ka0_ : kd a0_ = 3) (a1_ : Nat) (ma1_ : a1_ ∈ L) (ka1_ : kd a1_ = 7) (x2_ : Int32) (x3_ : Int32) (x4_ : Int32) (x5_ : Int32) (x6_ : Int32) : Met l yX3_mayTake (.code yX3_mayTake cX3_mayTake 8 (some .boolean) :: lw_g) ({ frames := 2, cells := 0, slots := 0, locals := 43 }) (va_Pc [.ref a0_, .ref a1_, .int x2_, .int x3_, .int x4_, .int x5_, .int x6_] (P3 (dC, dI) L tys f0 sz)) (va_Qi (fun (r : Int32) (f : Nat → va_E) => (r = 0 ∧ True) ∨ (r = 1 ∧ bd 0 2 x2_ ∧ bd 0 11 x3_ ∧ ∃ z0_ : Int32, bd 1 8 z0_ ∧ ∃ z1_ : Int32, bd 1 3 z1_ ∧ Fs L kd f [(7, 1, a1_, .int z0_), (3, 4, a0_, .int z1_)])) (Q3 (dC, dI) L kd tys [] [] f0 sz) (pA L sz)) 0 0 (pA L sz) := by
  refine Met.ofW (cc := cX3_mayTake) (maxL := 8) (ret := (some .boolean)) (by decide) rfl ?_
  intro p e s m args below meth c s₁ B hml hv
  obtain ⟨rfl, hsz, hP, hK, hD0⟩ := hv
  have hx := B.exec
  have hb := B.bytes
  have hr := B.returns
  have hts := atoms_spec (ws := (.code yX3_mayTake cX3_mayTake 8 (some .boolean) :: lw_g)) B.pre
  have hown : s.vm.findClass RX3 = some m.cls := findClass_of_methodNamed B.named
  have hlocks := B.notSynchronized
  subst hsz
  have g : G3 (dC, dI) L kd tys s f0 [] [] f0 s.heap [] [] := G3.start hP hD0 hWT Fs.nil
  have hl := lv_entry ([.ref a0_, .ref a1_, .int x2_, .int x3_, .int x4_, .int x5_, .int x6_]) (n := 8) (Nat.le_of_ble_eq_true rfl)
  rw [lg_entry_eq]
  generalize (lg_sl ([.ref a0_, .ref a1_, .int x2_, .int x3_, .int x4_, .int x5_, .int x6_]) ++ List.replicate (8 - (lg_sl ([.ref a0_, .ref a1_, .int x2_, .int x3_, .int x4_, .int x5_, .int x6_])).length) Slot.unset).toArray = ls at hl ⊢
  have hl : lv_has ls 8 [(0, .ref a0_), (1, .ref a1_), (2, .int x2_), (3, .int x3_), (4, .int x4_), (5, .int x5_), (6, .int x6_)] := hl
  refine W_q (fun Q hQ => ?_)
  refine lv_iload_n hx hb dX3_mayTake_0 rfl (lv_at hl 2 rfl) ?_
  have kb_0 : bd 0 0 (0 : Int32) := ⟨by decide, by decide⟩
  refine lv_if_lt (tgt := 26) hx hb dX3_mayTake_1 (by decide) (fun c_1 => ?_) (fun c_1 => ?_)
  · have fc_1 := lt_f c_1
    have b_2 : bd (-2147483648) (-1) x2_ := ltL fc_1 (bdT x2_) kb_0 (by decide)
    refine lv_iconst (v := 0) hx hb dX3_mayTake_26 (by decide) ?_
    subst hQ
    exact W.zret (v := 0) hx hb hr (nar_z (bd_sub kb_0 (by decide) : bd 0 1 _).1 (bd_sub kb_0 (by decide) : bd 0 1 _).2) (fun t ht hW => ⟨⟨_, _, rfl, Or.inl ⟨rfl, trivial⟩, q3_of g hK ht hW⟩, g.2.2.1.F ht⟩) g.2.2.1.2.2 dX3_mayTake_27
  · have fc_1 := nlt_f c_1
    have b_3 : bd 0 2147483647 x2_ := leR fc_1 kb_0 (bdT x2_) (by decide)
    refine lv_iload_n hx hb dX3_mayTake_4 rfl (lv_at hl 2 rfl) ?_
    refine lv_aload_n hx hb dX3_mayTake_5 rfl (lv_at hl 0 rfl) ?_
    refine g_geti (C := RX3) (T := TX3) (N := 6) hx hb hts (mc_ inX3) hown hK g ma0_ ka0_ (by decide) rfl 4 (by decide) rfl (hts _ (List.mem_cons_of_mem _ t_813)) (fun _ h9 => h9) rfl dX3_mayTake_6 (fun x_4 bx_4 g => ?_)
    refine lv_icmp_ge (tgt := 26) hx hb dX3_mayTake_9 (by decide) (fun c_5 => ?_) (fun c_5 => ?_)
    · have fc_5 := le_f c_5
      refine lv_iconst (v := 0) hx hb dX3_mayTake_26 (by decide) ?_
      subst hQ
      exact W.zret (v := 0) hx hb hr (nar_z (bd_sub kb_0 (by decide) : bd 0 1 _).1 (bd_sub kb_0 (by decide) : bd 0 1 _).2) (fun t ht hW => ⟨⟨_, _, rfl, Or.inl ⟨rfl, trivial⟩, q3_of g hK ht hW⟩, g.2.2.1.F ht⟩) g.2.2.1.2.2 dX3_mayTake_27
    · have fc_5 := nle_f c_5
      have b_6 : bd 0 2 x2_ := ltL fc_5 b_3 bx_4 (by decide)
      have b_7 : bd 1 3 x_4 := ltR fc_5 b_3 bx_4 (by decide)
      refine lv_aload_n hx hb dX3_mayTake_12 rfl (lv_at hl 1 rfl) ?_
      refine lv_aload_n hx hb dX3_mayTake_13 rfl (lv_at hl 0 rfl) ?_
      refine g_getr (K := 125) (C := RX3) (T := TX3) (N := 6) hx hb hts (mc_ inX3) hown hK g ma0_ ka0_ (by decide) rfl 5 (by decide) rfl (hts _ (List.mem_cons_of_mem _ t_815)) (fun _ h9 => h9) rfl dX3_mayTake_14 (fun a_8 ma_8 ka_8 g => ?_)
      refine lv_iload_n hx hb dX3_mayTake_17 rfl (lv_at hl 2 rfl) ?_
      refine g_iald hx hb hK g ma_8 ka_8 (by decide) rfl (in_bd b_6 (by decide)) dX3_mayTake_18 (fun x_9 bx_9 cx_9 => ?_)
      refine lv_iload_n hx hb dX3_mayTake_19 rfl (lv_at hl 3 rfl) ?_
      refine g_calli (va_runV (As := [.int x_9, .int x3_]) (rest := []) ⟨hx, hb, hml, hown, hts⟩ (r_X7_hasMember l dC dI L kd tys f0 s.heap.size g.2.2.2.1 a1_ ma1_ ka1_ x_9 x3_) (cwV 2 hts (gV_ t_1497 t_1448 t_1449 t_191 t_1450) rfl rfl rfl (by decide +kernel) ⟨(Nat.le_of_ble_eq_true rfl), (Nat.le_of_ble_eq_true rfl)⟩) (pre3V g hK ma1_ ka1_ (by decide) (q := (RX7, TX7, 19)) rfl) rfl rfl hl.1 rfl (lv_room (Nat.le_of_ble_eq_true rfl)) dX3_mayTake_20 ⟨(Nat.le_of_ble_eq_true rfl), (Nat.le_of_ble_eq_true rfl)⟩) g hK (by decide) (by decide) (fx' := [(3, 5, a0_, .ref a_8), (3, 4, a0_, .int x_4)]) rfl (fun r_10 fr_10 H locs hp hMr_10 g => ?_)
      rcases hp with ⟨h_11, -⟩ | ⟨h_12, h_13, h_14, x_15, h_16, hF_17⟩
      · obtain rfl : r_10 = 0 := h_11
        refine lv_if_ne (tgt := 28) hx hb dX3_mayTake_23 (by decide) (fun c_ => absurd c_ (by decide)) (fun c_ => ?_)
        refine lv_iconst (v := 0) hx hb dX3_mayTake_26 (by decide) ?_
        subst hQ
        exact W.zret (v := 0) hx hb hr (nar_z (bd_sub kb_0 (by decide) : bd 0 1 _).1 (bd_sub kb_0 (by decide) : bd 0 1 _).2) (fun t ht hW => ⟨⟨_, _, rfl, Or.inl ⟨rfl, trivial⟩, q3_of g hK ht hW⟩, g.2.2.1.F ht⟩) g.2.2.1.2.2 dX3_mayTake_27
      · obtain rfl : r_10 = 1 := h_12
        have b_18 : bd 0 11 x3_ := eqX rfl (bdT x3_) h_14 (by decide)
        have g := g.more hF_17
        refine lv_if_ne (tgt := 28) hx hb dX3_mayTake_23 (by decide) (fun c_ => ?_) (fun c_ => absurd c_ (by decide))
        refine lv_aload_n hx hb dX3_mayTake_28 rfl (lv_at hl 0 rfl) ?_
        refine lv_aload_n hx hb dX3_mayTake_29 rfl (lv_at hl 1 rfl) ?_
        refine lv_iload_n hx hb dX3_mayTake_30 rfl (lv_at hl 2 rfl) ?_
        refine lv_iload_n hx hb dX3_mayTake_31 rfl (lv_at hl 3 rfl) ?_
        refine g_callr (va_runV (As := [.ref a1_, .int x2_, .int x3_]) (rest := []) ⟨hx, hb, hml, hown, hts⟩ (r_X3_tellingOf l dC dI L kd tys fr_10 H.size g.2.2.2.1 a0_ ma0_ ka0_ a1_ ma1_ ka1_ x2_ b_6 x3_ b_18 x_15 h_16 x_4 b_7 (g.fcts [0, 2] rfl)) (cwV 3 hts (gV_ t_1498 t_1500 t_53 t_196 t_1501) rfl rfl rfl (by decide +kernel) ⟨(Nat.le_of_ble_eq_true rfl), (Nat.le_of_ble_eq_true rfl)⟩) (pre3V g hK ma0_ ka0_ (by decide) (q := (RX3, TX3, 6)) rfl) rfl rfl hl.1 rfl (lv_room (Nat.le_of_ble_eq_true rfl)) dX3_mayTake_32 ⟨(Nat.le_of_ble_eq_true rfl), (Nat.le_of_ble_eq_true rfl)⟩) g hK (by decide) (by decide) (fx' := [(7, 1, a1_, .int x_15), (3, 5, a0_, .ref a_8), (3, 4, a0_, .int x_4)]) rfl (fun r_19 fr_19 H locs hp hMr_19 g => ?_)
        obtain ⟨mr_19, kr_19⟩ := hp
        refine lv_astore (lv' := [(7, .ref r_19), (0, .ref a0_), (1, .ref a1_), (2, .int x2_), (3, .int x3_), (4, .int x4_), (5, .int x5_), (6, .int x6_)]) hx hb dX3_mayTake_35 hl (by decide) rfl (fun ls hl => ?_)
        refine lv_aload hx hb dX3_mayTake_37 (lv_at hl 0 rfl) ?_
        refine lv_iconst (v := 0) hx hb dX3_mayTake_39 (by decide) ?_
        refine lv_iload hx hb dX3_mayTake_40 (lv_at hl 5 rfl) ?_
        refine g_calli (va_runV (As := [.int 0, .int x4_]) (rest := []) ⟨hx, hb, hml, hown, hts⟩ (r_X6_admits l dC dI L kd tys fr_19 H.size g.2.2.2.1 r_19 mr_19 kr_19 0 x4_) (cwV 2 hts (gV_ t_1502 t_1503 t_1504 t_193 t_1505) rfl rfl rfl (by decide +kernel) ⟨(Nat.le_of_ble_eq_true rfl), (Nat.le_of_ble_eq_true rfl)⟩) (pre3V g hK mr_19 kr_19 (by decide) (q := (RX6, TX6, 13)) rfl) rfl rfl hl.1 rfl (lv_room (Nat.le_of_ble_eq_true rfl)) dX3_mayTake_42 ⟨(Nat.le_of_ble_eq_true rfl), (Nat.le_of_ble_eq_true rfl)⟩) g hK (by decide) (by decide) (fx' := [(7, 1, a1_, .int x_15), (3, 5, a0_, .ref a_8), (3, 4, a0_, .int x_4)]) rfl (fun r_20 fr_20 H locs hp hMr_20 g => ?_)
        rcases hp with ⟨h_21, -⟩ | ⟨h_22, -⟩
        · obtain rfl : r_20 = 0 := h_21
          refine lv_if_eq (tgt := 74) hx hb dX3_mayTake_45 (by decide) (fun c_ => ?_) (fun c_ => absurd (by decide) c_)
          refine lv_iconst (v := 0) hx hb dX3_mayTake_74 (by decide) ?_
          subst hQ
          exact W.zret (v := 0) hx hb hr (nar_z (bd_sub kb_0 (by decide) : bd 0 1 _).1 (bd_sub kb_0 (by decide) : bd 0 1 _).2) (fun t ht hW => ⟨⟨_, _, rfl, Or.inl ⟨rfl, trivial⟩, q3_of g hK ht hW⟩, g.2.2.1.F ht⟩) g.2.2.1.2.2 dX3_mayTake_75
        · obtain rfl : r_20 = 1 := h_22
          refine lv_if_eq (tgt := 74) hx hb dX3_mayTake_45 (by decide) (fun c_ => absurd c_ (by decide)) (fun c_ => ?_)
          refine lv_aload hx hb dX3_mayTake_48 (lv_at hl 0 rfl) ?_
          refine lv_iconst (v := 1) hx hb dX3_mayTake_50 (by decide) ?_
          refine lv_iload hx hb dX3_mayTake_51 (lv_at hl 6 rfl) ?_
          refine g_calli (va_runV (As := [.int 1, .int x5_]) (rest := []) ⟨hx, hb, hml, hown, hts⟩ (r_X6_admits l dC dI L kd tys fr_20 H.size g.2.2.2.1 r_19 mr_19 kr_19 1 x5_) (cwV 2 hts (gV_ t_1502 t_1503 t_1504 t_193 t_1505) rfl rfl rfl (by decide +kernel) ⟨(Nat.le_of_ble_eq_true rfl), (Nat.le_of_ble_eq_true rfl)⟩) (pre3V g hK mr_19 kr_19 (by decide) (q := (RX6, TX6, 13)) rfl) rfl rfl hl.1 rfl (lv_room (Nat.le_of_ble_eq_true rfl)) dX3_mayTake_53 ⟨(Nat.le_of_ble_eq_true rfl), (Nat.le_of_ble_eq_true rfl)⟩) g hK (by decide) (by decide) (fx' := [(7, 1, a1_, .int x_15), (3, 5, a0_, .ref a_8), (3, 4, a0_, .int x_4)]) rfl (fun r_23 fr_23 H locs hp hMr_23 g => ?_)
          rcases hp with ⟨h_24, -⟩ | ⟨h_25, -⟩
          · obtain rfl : r_23 = 0 := h_24
            refine lv_if_eq (tgt := 74) hx hb dX3_mayTake_56 (by decide) (fun c_ => ?_) (fun c_ => absurd (by decide) c_)
            refine lv_iconst (v := 0) hx hb dX3_mayTake_74 (by decide) ?_
            subst hQ
            exact W.zret (v := 0) hx hb hr (nar_z (bd_sub kb_0 (by decide) : bd 0 1 _).1 (bd_sub kb_0 (by decide) : bd 0 1 _).2) (fun t ht hW => ⟨⟨_, _, rfl, Or.inl ⟨rfl, trivial⟩, q3_of g hK ht hW⟩, g.2.2.1.F ht⟩) g.2.2.1.2.2 dX3_mayTake_75
          · obtain rfl : r_23 = 1 := h_25
            refine lv_if_eq (tgt := 74) hx hb dX3_mayTake_56 (by decide) (fun c_ => absurd c_ (by decide)) (fun c_ => ?_)
            refine lv_aload hx hb dX3_mayTake_59 (lv_at hl 0 rfl) ?_
            refine lv_iconst (v := 2) hx hb dX3_mayTake_61 (by decide) ?_
            refine lv_iload hx hb dX3_mayTake_62 (lv_at hl 7 rfl) ?_
            refine g_calli (va_runV (As := [.int 2, .int x6_]) (rest := []) ⟨hx, hb, hml, hown, hts⟩ (r_X6_admits l dC dI L kd tys fr_23 H.size g.2.2.2.1 r_19 mr_19 kr_19 2 x6_) (cwV 2 hts (gV_ t_1502 t_1503 t_1504 t_193 t_1505) rfl rfl rfl (by decide +kernel) ⟨(Nat.le_of_ble_eq_true rfl), (Nat.le_of_ble_eq_true rfl)⟩) (pre3V g hK mr_19 kr_19 (by decide) (q := (RX6, TX6, 13)) rfl) rfl rfl hl.1 rfl (lv_room (Nat.le_of_ble_eq_true rfl)) dX3_mayTake_64 ⟨(Nat.le_of_ble_eq_true rfl), (Nat.le_of_ble_eq_true rfl)⟩) g hK (by decide) (by decide) (fx' := [(7, 1, a1_, .int x_15), (3, 5, a0_, .ref a_8), (3, 4, a0_, .int x_4)]) rfl (fun r_26 fr_26 H locs hp hMr_26 g => ?_)
            rcases hp with ⟨h_27, -⟩ | ⟨h_28, -⟩
            · obtain rfl : r_26 = 0 := h_27
              refine lv_if_eq (tgt := 74) hx hb dX3_mayTake_67 (by decide) (fun c_ => ?_) (fun c_ => absurd (by decide) c_)
              refine lv_iconst (v := 0) hx hb dX3_mayTake_74 (by decide) ?_
              subst hQ
              exact W.zret (v := 0) hx hb hr (nar_z (bd_sub kb_0 (by decide) : bd 0 1 _).1 (bd_sub kb_0 (by decide) : bd 0 1 _).2) (fun t ht hW => ⟨⟨_, _, rfl, Or.inl ⟨rfl, trivial⟩, q3_of g hK ht hW⟩, g.2.2.1.F ht⟩) g.2.2.1.2.2 dX3_mayTake_75
            · obtain rfl : r_26 = 1 := h_28
              refine lv_if_eq (tgt := 74) hx hb dX3_mayTake_67 (by decide) (fun c_ => absurd c_ (by decide)) (fun c_ => ?_)
              refine lv_iconst (v := 1) hx hb dX3_mayTake_70 (by decide) ?_
              refine lv_goto (tgt := 75) hx hb dX3_mayTake_71 (by decide) ?_
              subst hQ
              have kb_1 : bd 1 1 (1 : Int32) := ⟨by decide, by decide⟩
              exact W.zret (v := 1) hx hb hr (nar_z (bd_sub kb_1 (by decide) : bd 0 1 _).1 (bd_sub kb_1 (by decide) : bd 0 1 _).2) (fun t ht hW => ⟨⟨_, _, rfl, Or.inr (⟨rfl, b_6, b_18, x_15, h_16, x_4, b_7, (g.fcts [0, 2] rfl)⟩), q3_of g hK ht hW⟩, g.2.2.1.F ht⟩) g.2.2.1.2.2 dX3_mayTake_75
set_option maxHeartbeats 4000000 in
set_option maxRecDepth 100000 in
theorem r_X3_copyFrom (l : Launch) (dC : Nat → ClassId) (dI : Nat → Nat → Nat) (L : List Nat) (kd : Nat → Nat) (tys : List (ClassId × FieldType)) (f0 : Nat → va_E) (sz : Nat) (hWT : WT L kd tys f0) (a0_ : Nat) (ma0_ : a0_ ∈ L) (ka0_ : kd a0_ = 3) (a1_ : Nat) (ma1_ : a1_ ∈ L) (ka1_ : kd a1_ = 3) : Met l yX3_copyFrom (.code yX3_copyFrom cX3_copyFrom 3 none :: lw_g) ({ frames := 1, cells := 0, slots := 0, locals := 40 }) (va_Pc [.ref a0_, .ref a1_] (P3 (dC, dI) L tys f0 sz)) (va_Qv (fun (f : Nat → va_E) => (True)) (Q3 (dC, dI) L kd tys [(3, 0), (3, 4)] [103, 122, 123, 125] f0 sz) (pA L sz)) 0 0 (pA L sz) := by
  refine Met.ofW (cc := cX3_copyFrom) (maxL := 3) (ret := none) (by decide) rfl ?_
  intro p e s m args below meth c s₁ B hml hv
  obtain ⟨rfl, hsz, hP, hK, hD0⟩ := hv
  have hx := B.exec
  have hb := B.bytes
  have hr := B.returns
  have hts := atoms_spec (ws := (.code yX3_copyFrom cX3_copyFrom 3 none :: lw_g)) B.pre
  have hown : s.vm.findClass RX3 = some m.cls := findClass_of_methodNamed B.named
  have hlocks := B.notSynchronized
  subst hsz
  have g : G3 (dC, dI) L kd tys s f0 [(3, 0), (3, 4)] [103, 122, 123, 125] f0 s.heap [] [] := G3.start hP hD0 hWT Fs.nil
  have hl := lv_entry ([.ref a0_, .ref a1_]) (n := 3) (Nat.le_of_ble_eq_true rfl)
  rw [lg_entry_eq]
  generalize (lg_sl ([.ref a0_, .ref a1_]) ++ List.replicate (3 - (lg_sl ([.ref a0_, .ref a1_])).length) Slot.unset).toArray = ls at hl ⊢
  have hl : lv_has ls 3 [(0, .ref a0_), (1, .ref a1_)] := hl
  refine W_q (fun Q hQ => ?_)
  refine lv_aload_n hx hb dX3_copyFrom_0 rfl (lv_at hl 0 rfl) ?_
  refine lv_aload_n hx hb dX3_copyFrom_1 rfl (lv_at hl 1 rfl) ?_
  refine g_geti (C := RX3) (T := TX3) (N := 6) hx hb hts (mc_ inX3) hown hK g ma1_ ka1_ (by decide) rfl 0 (by decide) rfl (hts _ (List.mem_cons_of_mem _ t_801)) (fun _ h9 => h9) rfl dX3_copyFrom_2 (fun x_1 bx_1 g => ?_)
  refine g_put (C := RX3) (T := TX3) (N := 6) hx hb hts (mc_ inX3) tyX3 tyX3_ok nmX3 hown hK g ma0_ ka0_ (by decide) rfl 0 (by decide) (hts _ (List.mem_cons_of_mem _ t_801)) (fun _ h9 => h9) rfl rfl (okV_i bx_1) rfl rfl (by decide) (Or.inr (Or.inl (by decide))) (fx' := []) rfl dX3_copyFrom_5 (fun f H locs hM_2 g => ?_)
  refine lv_aload_n hx hb dX3_copyFrom_8 rfl (lv_at hl 0 rfl) ?_
  refine lv_aload_n hx hb dX3_copyFrom_9 rfl (lv_at hl 1 rfl) ?_
  refine g_geti (C := RX3) (T := TX3) (N := 6) hx hb hts (mc_ inX3) hown hK g ma1_ ka1_ (by decide) rfl 4 (by decide) rfl (hts _ (List.mem_cons_of_mem _ t_813)) (fun _ h9 => h9) rfl dX3_copyFrom_10 (fun x_3 bx_3 g => ?_)
  refine g_put (C := RX3) (T := TX3) (N := 6) hx hb hts (mc_ inX3) tyX3 tyX3_ok nmX3 hown hK g ma0_ ka0_ (by decide) rfl 4 (by decide) (hts _ (List.mem_cons_of_mem _ t_813)) (fun _ h9 => h9) rfl rfl (okV_i bx_3) rfl rfl (by decide) (Or.inr (Or.inl (by decide))) (fx' := [(3, 0, a0_, .int x_1)]) rfl dX3_copyFrom_13 (fun f H locs hM_4 g => ?_)
  refine lv_aload_n hx hb dX3_copyFrom_16 rfl (lv_at hl 1 rfl) ?_
  refine g_getr (K := 122) (C := RX3) (T := TX3) (N := 6) hx hb hts (mc_ inX3) hown hK g ma1_ ka1_ (by decide) rfl 1 (by decide) rfl (hts _ (List.mem_cons_of_mem _ t_804)) (fun _ h9 => h9) rfl dX3_copyFrom_17 (fun a_5 ma_5 ka_5 g => ?_)
  refine lv_iconst (v := 0) hx hb dX3_copyFrom_20 (by decide) ?_
  refine lv_aload_n hx hb dX3_copyFrom_21 rfl (lv_at hl 0 rfl) ?_
  refine g_getr (K := 122) (C := RX3) (T := TX3) (N := 6) hx hb hts (mc_ inX3) hown hK g ma0_ ka0_ (by decide) rfl 1 (by decide) rfl (hts _ (List.mem_cons_of_mem _ t_804)) (fun _ h9 => h9) rfl dX3_copyFrom_22 (fun a_6 ma_6 ka_6 g => ?_)
  refine lv_iconst (v := 0) hx hb dX3_copyFrom_25 (by decide) ?_
  refine lv_bipush (v := 10) hx hb dX3_copyFrom_26 (by decide) ?_
  refine g_copyi hx hb (hml.trans hl.1.symm) hown (hts _ (List.mem_cons_of_mem _ t_1735)) (hts _ (List.mem_cons_of_mem _ t_1142)) (hts _ (List.mem_cons_of_mem _ t_1141)) (hts _ (List.mem_cons_of_mem _ t_206)) hK g ma_5 ka_5 ma_6 ka_6 (by decide) (by decide) rfl rfl (by decide) (by decide) (by decide) (by decide) (by decide) (Nat.le_of_ble_eq_true rfl) (Nat.le_of_ble_eq_true rfl) dX3_copyFrom_28 (fun f H locs hM_7 g => ?_)
  refine lv_aload_n hx hb dX3_copyFrom_31 rfl (lv_at hl 1 rfl) ?_
  refine g_getr (K := 123) (C := RX3) (T := TX3) (N := 6) hx hb hts (mc_ inX3) hown hK g ma1_ ka1_ (by decide) rfl 2 (by decide) rfl (hts _ (List.mem_cons_of_mem _ t_807)) (fun _ h9 => h9) rfl dX3_copyFrom_32 (fun a_8 ma_8 ka_8 g => ?_)
  refine lv_iconst (v := 0) hx hb dX3_copyFrom_35 (by decide) ?_
  refine lv_aload_n hx hb dX3_copyFrom_36 rfl (lv_at hl 0 rfl) ?_
  refine g_getr (K := 123) (C := RX3) (T := TX3) (N := 6) hx hb hts (mc_ inX3) hown hK g ma0_ ka0_ (by decide) rfl 2 (by decide) rfl (hts _ (List.mem_cons_of_mem _ t_807)) (fun _ h9 => h9) rfl dX3_copyFrom_37 (fun a_9 ma_9 ka_9 g => ?_)
  refine lv_iconst (v := 0) hx hb dX3_copyFrom_40 (by decide) ?_
  refine lv_bipush (v := 10) hx hb dX3_copyFrom_41 (by decide) ?_
  refine g_copyi hx hb (hml.trans hl.1.symm) hown (hts _ (List.mem_cons_of_mem _ t_1735)) (hts _ (List.mem_cons_of_mem _ t_1142)) (hts _ (List.mem_cons_of_mem _ t_1141)) (hts _ (List.mem_cons_of_mem _ t_206)) hK g ma_8 ka_8 ma_9 ka_9 (by decide) (by decide) rfl rfl (by decide) (by decide) (by decide) (by decide) (by decide) (Nat.le_of_ble_eq_true rfl) (Nat.le_of_ble_eq_true rfl) dX3_copyFrom_43 (fun f H locs hM_10 g => ?_)
  refine lv_aload_n hx hb dX3_copyFrom_46 rfl (lv_at hl 1 rfl) ?_
  refine g_getr (K := 125) (C := RX3) (T := TX3) (N := 6) hx hb hts (mc_ inX3) hown hK g ma1_ ka1_ (by decide) rfl 5 (by decide) rfl (hts _ (List.mem_cons_of_mem _ t_815)) (fun _ h9 => h9) rfl dX3_copyFrom_47 (fun a_11 ma_11 ka_11 g => ?_)
  refine lv_iconst (v := 0) hx hb dX3_copyFrom_50 (by decide) ?_
  refine lv_aload_n hx hb dX3_copyFrom_51 rfl (lv_at hl 0 rfl) ?_
  refine g_getr (K := 125) (C := RX3) (T := TX3) (N := 6) hx hb hts (mc_ inX3) hown hK g ma0_ ka0_ (by decide) rfl 5 (by decide) rfl (hts _ (List.mem_cons_of_mem _ t_815)) (fun _ h9 => h9) rfl dX3_copyFrom_52 (fun a_12 ma_12 ka_12 g => ?_)
  refine lv_iconst (v := 0) hx hb dX3_copyFrom_55 (by decide) ?_
  refine lv_iconst (v := 3) hx hb dX3_copyFrom_56 (by decide) ?_
  refine g_copyi hx hb (hml.trans hl.1.symm) hown (hts _ (List.mem_cons_of_mem _ t_1735)) (hts _ (List.mem_cons_of_mem _ t_1142)) (hts _ (List.mem_cons_of_mem _ t_1141)) (hts _ (List.mem_cons_of_mem _ t_206)) hK g ma_11 ka_11 ma_12 ka_12 (by decide) (by decide) rfl rfl (by decide) (by decide) (by decide) (by decide) (by decide) (Nat.le_of_ble_eq_true rfl) (Nat.le_of_ble_eq_true rfl) dX3_copyFrom_57 (fun f H locs hM_13 g => ?_)
  refine lv_iconst (v := 0) hx hb dX3_copyFrom_60 (by decide) ?_
  refine lv_istore_n (lv' := [(2, .int 0), (0, .ref a0_), (1, .ref a1_)]) hx hb dX3_copyFrom_61 rfl hl (by decide) rfl (fun ls hl => ?_)
  have loop_14 : ∀ (n : Nat) (v62_2 : Int32), bd 0 10 v62_2 → (10 - v62_2.toInt < (n : Int)) → ∀ (f : Nat → va_E) (H : Heap) (locs : List Loc) (ls : Array Slot), G3 (dC, dI) L kd tys s f0 [(3, 0), (3, 4)] [103, 122, 123, 125] f H locs [(3, 5, a0_, .ref a_12), (3, 5, a1_, .ref a_11), (3, 2, a0_, .ref a_9), (3, 2, a1_, .ref a_8), (3, 1, a0_, .ref a_6), (3, 1, a1_, .ref a_5), (3, 4, a0_, .int x_3), (3, 0, a0_, .int x_1)] → lv_has ls 3 [(2, .int v62_2), (0, .ref a0_), (1, .ref a1_)] → W p l e ({ frames := 1, cells := 0, slots := 0, locals := 40 } : Room) s m [.ref a0_, .ref a1_].toArray below meth c H locs 0 0 Q (F0 m 62 ls []) := by
    intro n62
    induction n62 with
    | zero =>
      intro v62_2 bv62_2 hm62 f H locs ls g  hl
      exact absurd hm62 (by have h9_v62_2 := bv62_2; unfold bd at h9_v62_2; omega)
    | succ n62 ih62 =>
      intro v62_2 bv62_2 hm62 f H locs ls g  hl
      refine lv_iload_n hx hb dX3_copyFrom_62 rfl (lv_at hl 0 rfl) ?_
      refine lv_bipush (v := 10) hx hb dX3_copyFrom_63 (by decide) ?_
      have kb_10 : bd 10 10 (10 : Int32) := ⟨by decide, by decide⟩
      refine lv_icmp_ge (tgt := 92) hx hb dX3_copyFrom_65 (by decide) (fun c_15 => ?_) (fun c_15 => ?_)
      · have fc_15 := le_f c_15
        have b_16 : bd 10 10 v62_2 := leR fc_15 kb_10 bv62_2 (by decide)
        subst hQ
        exact W.vret hx hb hr (fun t ht hW => ⟨⟨_, rfl, trivial, q3_of g hK ht hW⟩, g.2.2.1.F ht⟩) g.2.2.1.2.2 dX3_copyFrom_92
      · have fc_15 := nle_f c_15
        have b_17 : bd 0 9 v62_2 := ltL fc_15 bv62_2 kb_10 (by decide)
        refine lv_aload_n hx hb dX3_copyFrom_68 rfl (lv_at hl 2 rfl) ?_
        refine g_getr (K := 124) (C := RX3) (T := TX3) (N := 6) hx hb hts (mc_ inX3) hown hK g ma1_ ka1_ (by decide) rfl 3 (by decide) rfl (hts _ (List.mem_cons_of_mem _ t_810)) (fun _ h9 => h9) rfl dX3_copyFrom_69 (fun a_18 ma_18 ka_18 g => ?_)
        refine lv_iload_n hx hb dX3_copyFrom_72 rfl (lv_at hl 0 rfl) ?_
        refine g_aald hx hb hK g ma_18 ka_18 (by decide) rfl (by decide) (in_bd b_17 (by decide)) dX3_copyFrom_73 (fun a_19 ma_19 ua_19 wa_19 => ?_)
        have ka_19 : kd a_19 = 103 := by omega
        refine lv_iconst (v := 0) hx hb dX3_copyFrom_74 (by decide) ?_
        refine lv_aload_n hx hb dX3_copyFrom_75 rfl (lv_at hl 1 rfl) ?_
        refine g_getr (K := 124) (C := RX3) (T := TX3) (N := 6) hx hb hts (mc_ inX3) hown hK g ma0_ ka0_ (by decide) rfl 3 (by decide) rfl (hts _ (List.mem_cons_of_mem _ t_810)) (fun _ h9 => h9) rfl dX3_copyFrom_76 (fun a_20 ma_20 ka_20 g => ?_)
        refine lv_iload_n hx hb dX3_copyFrom_79 rfl (lv_at hl 0 rfl) ?_
        refine g_aald hx hb hK g ma_20 ka_20 (by decide) rfl (by decide) (in_bd b_17 (by decide)) dX3_copyFrom_80 (fun a_21 ma_21 ua_21 wa_21 => ?_)
        have ka_21 : kd a_21 = 103 := by omega
        refine lv_iconst (v := 0) hx hb dX3_copyFrom_81 (by decide) ?_
        refine lv_iconst (v := 3) hx hb dX3_copyFrom_82 (by decide) ?_
        refine g_copyi hx hb (hml.trans hl.1.symm) hown (hts _ (List.mem_cons_of_mem _ t_1735)) (hts _ (List.mem_cons_of_mem _ t_1142)) (hts _ (List.mem_cons_of_mem _ t_1141)) (hts _ (List.mem_cons_of_mem _ t_206)) hK g ma_19 ka_19 ma_21 ka_21 (by decide) (by decide) rfl rfl (by decide) (by decide) (by decide) (by decide) (by decide) (Nat.le_of_ble_eq_true rfl) (Nat.le_of_ble_eq_true rfl) dX3_copyFrom_83 (fun f H locs hM_22 g => ?_)
        have kb_1 : bd 1 1 (1 : Int32) := ⟨by decide, by decide⟩
        obtain ⟨y_23, ey_23⟩ : ∃ z : Int32, z = v62_2 + 1 := ⟨_, rfl⟩
        refine lv_iinc (v := y_23) (lv' := [(2, .int y_23), (0, .ref a0_), (1, .ref a1_)]) hx hb dX3_copyFrom_86 hl (k := 0) rfl (by rw [ey_23]; rfl) (by decide) rfl (fun ls hl => ?_)
        have ty_23 := add_bd ey_23 b_17 kb_1 (by decide)
        have b_24 : bd 1 10 y_23 := add_rg ty_23 b_17 kb_1 (by decide)
        refine lv_goto (tgt := 62) hx hb dX3_copyFrom_89 (by decide) ?_
        have hl9 := lv_sub hl [0, 1, 2] (by rfl : lv_pick [(2, .int y_23), (0, .ref a0_), (1, .ref a1_)] [0, 1, 2] = [(2, .int y_23), (0, .ref a0_), (1, .ref a1_)])
        have g9 := g.sub (fx' := [(3, 5, a0_, .ref a_12), (3, 5, a1_, .ref a_11), (3, 2, a0_, .ref a_9), (3, 2, a1_, .ref a_8), (3, 1, a0_, .ref a_6), (3, 1, a1_, .ref a_5), (3, 4, a0_, .int x_3), (3, 0, a0_, .int x_1)]) [2, 3, 4, 5, 6, 7, 8, 9] rfl
        exact ih62  y_23 (bd_sub b_24 (by decide)) (by have h9_0 := b_24; unfold bd at h9_0; have h9_1 := bv62_2; unfold bd at h9_1; have h9_2 := kb_1; unfold bd at h9_2; have h9_3 := kb_10; unfold bd at h9_3; omega) _ _ _ _ g9  hl9
  have kb_0 : bd 0 0 (0 : Int32) := ⟨by decide, by decide⟩
  have hl9 := lv_sub hl [0, 1, 2] (by rfl : lv_pick [(2, .int 0), (0, .ref a0_), (1, .ref a1_)] [0, 1, 2] = [(2, .int 0), (0, .ref a0_), (1, .ref a1_)])
  have g9 := g.sub (fx' := [(3, 5, a0_, .ref a_12), (3, 5, a1_, .ref a_11), (3, 2, a0_, .ref a_9), (3, 2, a1_, .ref a_8), (3, 1, a0_, .ref a_6), (3, 1, a1_, .ref a_5), (3, 4, a0_, .int x_3), (3, 0, a0_, .int x_1)]) [0, 1, 2, 3, 4, 5, 6, 7] rfl
  exact loop_14 (23) 0 (bd_sub kb_0 (by decide)) (by have h9_0 := kb_0; unfold bd at h9_0; omega) _ _ _ _ g9  hl9
set_option maxHeartbeats 4000000 in
set_option maxRecDepth 100000 in
theorem r_X4_forgetCall (l : Launch) (dC : Nat → ClassId) (dI : Nat → Nat → Nat) (L : List Nat) (kd : Nat → Nat) (tys : List (ClassId × FieldType)) (f0 : Nat → va_E) (sz : Nat) (hWT : WT L kd tys f0) (a0_ : Nat) (ma0_ : a0_ ∈ L) (ka0_ : kd a0_ = 4) (x1_ : Int32) : Met l yX4_forgetCall (.code yX4_forgetCall cX4_forgetCall 2 none :: lw_g) ({ frames := 0, cells := 0, slots := 0, locals := 0 }) (va_Pc [.ref a0_, .int x1_] (P3 (dC, dI) L tys f0 sz)) (va_Qv (fun (f : Nat → va_E) => (True)) (Q3 (dC, dI) L kd tys [] [130, 131] f0 sz) (pA L sz)) 0 0 (pA L sz) := by
  refine Met.ofW (cc := cX4_forgetCall) (maxL := 2) (ret := none) (by decide) rfl ?_
  intro p e s m args below meth c s₁ B hml hv
  obtain ⟨rfl, hsz, hP, hK, hD0⟩ := hv
  have hx := B.exec
  have hb := B.bytes
  have hr := B.returns
  have hts := atoms_spec (ws := (.code yX4_forgetCall cX4_forgetCall 2 none :: lw_g)) B.pre
  have hown : s.vm.findClass RX4 = some m.cls := findClass_of_methodNamed B.named
  have hlocks := B.notSynchronized
  subst hsz
  have g : G3 (dC, dI) L kd tys s f0 [] [130, 131] f0 s.heap [] [] := G3.start hP hD0 hWT Fs.nil
  have hl := lv_entry ([.ref a0_, .int x1_]) (n := 2) (Nat.le_of_ble_eq_true rfl)
  rw [lg_entry_eq]
  generalize (lg_sl ([.ref a0_, .int x1_]) ++ List.replicate (2 - (lg_sl ([.ref a0_, .int x1_])).length) Slot.unset).toArray = ls at hl ⊢
  have hl : lv_has ls 2 [(0, .ref a0_), (1, .int x1_)] := hl
  refine W_q (fun Q hQ => ?_)
  refine lv_iload_n hx hb dX4_forgetCall_0 rfl (lv_at hl 1 rfl) ?_
  have kb_0 : bd 0 0 (0 : Int32) := ⟨by decide, by decide⟩
  refine lv_if_lt (tgt := 24) hx hb dX4_forgetCall_1 (by decide) (fun c_1 => ?_) (fun c_1 => ?_)
  · have fc_1 := lt_f c_1
    have b_2 : bd (-2147483648) (-1) x1_ := ltL fc_1 (bdT x1_) kb_0 (by decide)
    subst hQ
    exact W.vret hx hb hr (fun t ht hW => ⟨⟨_, rfl, trivial, q3_of g hK ht hW⟩, g.2.2.1.F ht⟩) g.2.2.1.2.2 dX4_forgetCall_24
  · have fc_1 := nlt_f c_1
    have b_3 : bd 0 2147483647 x1_ := leR fc_1 kb_0 (bdT x1_) (by decide)
    refine lv_iload_n hx hb dX4_forgetCall_4 rfl (lv_at hl 1 rfl) ?_
    refine lv_bipush (v := 10) hx hb dX4_forgetCall_5 (by decide) ?_
    have kb_10 : bd 10 10 (10 : Int32) := ⟨by decide, by decide⟩
    refine lv_icmp_ge (tgt := 24) hx hb dX4_forgetCall_7 (by decide) (fun c_4 => ?_) (fun c_4 => ?_)
    · have fc_4 := le_f c_4
      have b_5 : bd 10 2147483647 x1_ := leR fc_4 kb_10 b_3 (by decide)
      subst hQ
      exact W.vret hx hb hr (fun t ht hW => ⟨⟨_, rfl, trivial, q3_of g hK ht hW⟩, g.2.2.1.F ht⟩) g.2.2.1.2.2 dX4_forgetCall_24
    · have fc_4 := nle_f c_4
      have b_6 : bd 0 9 x1_ := ltL fc_4 b_3 kb_10 (by decide)
      refine lv_aload_n hx hb dX4_forgetCall_10 rfl (lv_at hl 0 rfl) ?_
      refine g_getr (K := 130) (C := RX4) (T := TX4) (N := 17) hx hb hts (mc_ inX4) hown hK g ma0_ ka0_ (by decide) rfl 12 (by decide) rfl (hts _ (List.mem_cons_of_mem _ t_867)) (fun _ h9 => h9) rfl dX4_forgetCall_11 (fun a_7 ma_7 ka_7 g => ?_)
      refine lv_iload_n hx hb dX4_forgetCall_14 rfl (lv_at hl 1 rfl) ?_
      refine lv_iconst (v := 0) hx hb dX4_forgetCall_15 (by decide) ?_
      refine g_iast hx hb hK g ma_7 ka_7 (by decide) rfl (in_bd b_6 (by decide)) (bd_sub kb_0 (by decide)) (by decide) dX4_forgetCall_16 (fun f H locs hM_8 g => ?_)
      refine lv_aload_n hx hb dX4_forgetCall_17 rfl (lv_at hl 0 rfl) ?_
      refine g_getr (K := 131) (C := RX4) (T := TX4) (N := 17) hx hb hts (mc_ inX4) hown hK g ma0_ ka0_ (by decide) rfl 13 (by decide) rfl (hts _ (List.mem_cons_of_mem _ t_870)) (fun _ h9 => h9) rfl dX4_forgetCall_18 (fun a_9 ma_9 ka_9 g => ?_)
      refine lv_iload_n hx hb dX4_forgetCall_21 rfl (lv_at hl 1 rfl) ?_
      refine lv_iconst (v := 0) hx hb dX4_forgetCall_22 (by decide) ?_
      refine g_iast hx hb hK g ma_9 ka_9 (by decide) rfl (in_bd b_6 (by decide)) (bd_sub kb_0 (by decide)) (by decide) dX4_forgetCall_23 (fun f H locs hM_10 g => ?_)
      subst hQ
      exact W.vret hx hb hr (fun t ht hW => ⟨⟨_, rfl, trivial, q3_of g hK ht hW⟩, g.2.2.1.F ht⟩) g.2.2.1.2.2 dX4_forgetCall_24
set_option maxHeartbeats 4000000 in
set_option maxRecDepth 100000 in
theorem r_X4_wipe (l : Launch) (dC : Nat → ClassId) (dI : Nat → Nat → Nat) (L : List Nat) (kd : Nat → Nat) (tys : List (ClassId × FieldType)) (f0 : Nat → va_E) (sz : Nat) (hWT : WT L kd tys f0) (a0_ : Nat) (ma0_ : a0_ ∈ L) (ka0_ : kd a0_ = 4) : Met l yX4_wipe (.code yX4_wipe cX4_wipe 2 none :: lw_g) ({ frames := 1, cells := 0, slots := 0, locals := 21 }) (va_Pc [.ref a0_] (P3 (dC, dI) L tys f0 sz)) (va_Qv (fun (f : Nat → va_E) => (Fs L kd f [(4, 14, a0_, .int 0), (4, 6, a0_, .int 0), (4, 4, a0_, .int (-1)), (4, 3, a0_, .int (-1)), (4, 2, a0_, .int (-1)), (4, 1, a0_, .int (-1)), (4, 0, a0_, .int 0)])) (Q3 (dC, dI) L kd tys [(4, 0), (4, 1), (4, 2), (4, 3), (4, 4), (4, 5), (4, 6), (4, 14)] [130, 131] f0 sz) (pA L sz)) 0 0 (pA L sz) := by
  refine Met.ofW (cc := cX4_wipe) (maxL := 2) (ret := none) (by decide) rfl ?_
  intro p e s m args below meth c s₁ B hml hv
  obtain ⟨rfl, hsz, hP, hK, hD0⟩ := hv
  have hx := B.exec
  have hb := B.bytes
  have hr := B.returns
  have hts := atoms_spec (ws := (.code yX4_wipe cX4_wipe 2 none :: lw_g)) B.pre
  have hown : s.vm.findClass RX4 = some m.cls := findClass_of_methodNamed B.named
  have hlocks := B.notSynchronized
  subst hsz
  have g : G3 (dC, dI) L kd tys s f0 [(4, 0), (4, 1), (4, 2), (4, 3), (4, 4), (4, 5), (4, 6), (4, 14)] [130, 131] f0 s.heap [] [] := G3.start hP hD0 hWT Fs.nil
  have hl := lv_entry ([.ref a0_]) (n := 2) (Nat.le_of_ble_eq_true rfl)
  rw [lg_entry_eq]
  generalize (lg_sl ([.ref a0_]) ++ List.replicate (2 - (lg_sl ([.ref a0_])).length) Slot.unset).toArray = ls at hl ⊢
  have hl : lv_has ls 2 [(0, .ref a0_)] := hl
  refine W_q (fun Q hQ => ?_)
  refine lv_aload_n hx hb dX4_wipe_0 rfl (lv_at hl 0 rfl) ?_
  refine lv_iconst (v := 0) hx hb dX4_wipe_1 (by decide) ?_
  have kb_0 : bd 0 0 (0 : Int32) := ⟨by decide, by decide⟩
  refine g_put (C := RX4) (T := TX4) (N := 17) hx hb hts (mc_ inX4) tyX4 tyX4_ok nmX4 hown hK g ma0_ ka0_ (by decide) rfl 0 (by decide) (hts _ (List.mem_cons_of_mem _ t_836)) (fun _ h9 => h9) rfl rfl (okV_i (bd_sub kb_0 (by decide))) rfl rfl (by decide) (Or.inr (Or.inl (by decide))) (fx' := []) rfl dX4_wipe_2 (fun f H locs hM_1 g => ?_)
  refine lv_aload_n hx hb dX4_wipe_5 rfl (lv_at hl 0 rfl) ?_
  refine lv_iconst (v := (-1)) hx hb dX4_wipe_6 (by decide) ?_
  have kb_m1 : bd (-1) (-1) ((-1) : Int32) := ⟨by decide, by decide⟩
  refine g_put (C := RX4) (T := TX4) (N := 17) hx hb hts (mc_ inX4) tyX4 tyX4_ok nmX4 hown hK g ma0_ ka0_ (by decide) rfl 1 (by decide) (hts _ (List.mem_cons_of_mem _ t_839)) (fun _ h9 => h9) rfl rfl (okV_i (bd_sub kb_m1 (by decide))) rfl rfl (by decide) (Or.inr (Or.inl (by decide))) (fx' := [(4, 0, a0_, .int 0)]) rfl dX4_wipe_7 (fun f H locs hM_2 g => ?_)
  refine lv_aload_n hx hb dX4_wipe_10 rfl (lv_at hl 0 rfl) ?_
  refine lv_iconst (v := (-1)) hx hb dX4_wipe_11 (by decide) ?_
  refine g_put (C := RX4) (T := TX4) (N := 17) hx hb hts (mc_ inX4) tyX4 tyX4_ok nmX4 hown hK g ma0_ ka0_ (by decide) rfl 2 (by decide) (hts _ (List.mem_cons_of_mem _ t_841)) (fun _ h9 => h9) rfl rfl (okV_i (bd_sub kb_m1 (by decide))) rfl rfl (by decide) (Or.inr (Or.inl (by decide))) (fx' := [(4, 1, a0_, .int (-1)), (4, 0, a0_, .int 0)]) rfl dX4_wipe_12 (fun f H locs hM_3 g => ?_)
  refine lv_aload_n hx hb dX4_wipe_15 rfl (lv_at hl 0 rfl) ?_
  refine lv_iconst (v := (-1)) hx hb dX4_wipe_16 (by decide) ?_
  refine g_put (C := RX4) (T := TX4) (N := 17) hx hb hts (mc_ inX4) tyX4 tyX4_ok nmX4 hown hK g ma0_ ka0_ (by decide) rfl 3 (by decide) (hts _ (List.mem_cons_of_mem _ t_843)) (fun _ h9 => h9) rfl rfl (okV_i (bd_sub kb_m1 (by decide))) rfl rfl (by decide) (Or.inr (Or.inl (by decide))) (fx' := [(4, 2, a0_, .int (-1)), (4, 1, a0_, .int (-1)), (4, 0, a0_, .int 0)]) rfl dX4_wipe_17 (fun f H locs hM_4 g => ?_)
  refine lv_aload_n hx hb dX4_wipe_20 rfl (lv_at hl 0 rfl) ?_
  refine lv_iconst (v := (-1)) hx hb dX4_wipe_21 (by decide) ?_
  refine g_put (C := RX4) (T := TX4) (N := 17) hx hb hts (mc_ inX4) tyX4 tyX4_ok nmX4 hown hK g ma0_ ka0_ (by decide) rfl 4 (by decide) (hts _ (List.mem_cons_of_mem _ t_845)) (fun _ h9 => h9) rfl rfl (okV_i (bd_sub kb_m1 (by decide))) rfl rfl (by decide) (Or.inr (Or.inl (by decide))) (fx' := [(4, 3, a0_, .int (-1)), (4, 2, a0_, .int (-1)), (4, 1, a0_, .int (-1)), (4, 0, a0_, .int 0)]) rfl dX4_wipe_22 (fun f H locs hM_5 g => ?_)
  refine lv_aload_n hx hb dX4_wipe_25 rfl (lv_at hl 0 rfl) ?_
  refine lv_lconst (v := 0) hx hb dX4_wipe_26 (by decide) ?_
  refine g_put (C := RX4) (T := TX4) (N := 17) hx hb hts (mc_ inX4) tyX4 tyX4_ok nmX4 hown hK g ma0_ ka0_ (by decide) rfl 5 (by decide) (hts _ (List.mem_cons_of_mem _ t_847)) (fun _ h9 => h9) rfl rfl okV_l rfl rfl (by decide) (Or.inr (Or.inl (by decide))) (fx' := [(4, 4, a0_, .int (-1)), (4, 3, a0_, .int (-1)), (4, 2, a0_, .int (-1)), (4, 1, a0_, .int (-1)), (4, 0, a0_, .int 0)]) rfl dX4_wipe_27 (fun f H locs hM_6 g => ?_)
  refine lv_aload_n hx hb dX4_wipe_30 rfl (lv_at hl 0 rfl) ?_
  refine lv_iconst (v := 0) hx hb dX4_wipe_31 (by decide) ?_
  refine g_put (C := RX4) (T := TX4) (N := 17) hx hb hts (mc_ inX4) tyX4 tyX4_ok nmX4 hown hK g ma0_ ka0_ (by decide) rfl 6 (by decide) (hts _ (List.mem_cons_of_mem _ t_850)) (fun _ h9 => h9) rfl rfl (okV_i (bd_sub kb_0 (by decide))) rfl rfl (by decide) (Or.inr (Or.inl (by decide))) (fx' := [(4, 5, a0_, .long 0), (4, 4, a0_, .int (-1)), (4, 3, a0_, .int (-1)), (4, 2, a0_, .int (-1)), (4, 1, a0_, .int (-1)), (4, 0, a0_, .int 0)]) rfl dX4_wipe_32 (fun f H locs hM_7 g => ?_)
  refine lv_aload_n hx hb dX4_wipe_35 rfl (lv_at hl 0 rfl) ?_
  refine lv_iconst (v := 0) hx hb dX4_wipe_36 (by decide) ?_
  refine g_put (C := RX4) (T := TX4) (N := 17) hx hb hts (mc_ inX4) tyX4 tyX4_ok nmX4 hown hK g ma0_ ka0_ (by decide) rfl 14 (by decide) (hts _ (List.mem_cons_of_mem _ t_873)) (fun _ h9 => h9) rfl rfl (okV_i (bd_sub kb_0 (by decide))) rfl rfl (by decide) (Or.inr (Or.inl (by decide))) (fx' := [(4, 6, a0_, .int 0), (4, 5, a0_, .long 0), (4, 4, a0_, .int (-1)), (4, 3, a0_, .int (-1)), (4, 2, a0_, .int (-1)), (4, 1, a0_, .int (-1)), (4, 0, a0_, .int 0)]) rfl dX4_wipe_37 (fun f H locs hM_8 g => ?_)
  refine lv_iconst (v := 0) hx hb dX4_wipe_40 (by decide) ?_
  refine lv_istore_n (lv' := [(1, .int 0), (0, .ref a0_)]) hx hb dX4_wipe_41 rfl hl (by decide) rfl (fun ls hl => ?_)
  have loop_9 : ∀ (n : Nat) (v42_1 : Int32), bd 0 10 v42_1 → (10 - v42_1.toInt < (n : Int)) → ∀ (f : Nat → va_E) (H : Heap) (locs : List Loc) (ls : Array Slot), G3 (dC, dI) L kd tys s f0 [(4, 0), (4, 1), (4, 2), (4, 3), (4, 4), (4, 5), (4, 6), (4, 14)] [130, 131] f H locs [(4, 14, a0_, .int 0), (4, 6, a0_, .int 0), (4, 5, a0_, .long 0), (4, 4, a0_, .int (-1)), (4, 3, a0_, .int (-1)), (4, 2, a0_, .int (-1)), (4, 1, a0_, .int (-1)), (4, 0, a0_, .int 0)] → lv_has ls 2 [(1, .int v42_1), (0, .ref a0_)] → W p l e ({ frames := 1, cells := 0, slots := 0, locals := 21 } : Room) s m [.ref a0_].toArray below meth c H locs 0 0 Q (F0 m 42 ls []) := by
    intro n42
    induction n42 with
    | zero =>
      intro v42_1 bv42_1 hm42 f H locs ls g  hl
      exact absurd hm42 (by have h9_v42_1 := bv42_1; unfold bd at h9_v42_1; omega)
    | succ n42 ih42 =>
      intro v42_1 bv42_1 hm42 f H locs ls g  hl
      refine lv_iload_n hx hb dX4_wipe_42 rfl (lv_at hl 0 rfl) ?_
      refine lv_bipush (v := 10) hx hb dX4_wipe_43 (by decide) ?_
      have kb_10 : bd 10 10 (10 : Int32) := ⟨by decide, by decide⟩
      refine lv_icmp_ge (tgt := 59) hx hb dX4_wipe_45 (by decide) (fun c_10 => ?_) (fun c_10 => ?_)
      · have fc_10 := le_f c_10
        have b_11 : bd 10 10 v42_1 := leR fc_10 kb_10 bv42_1 (by decide)
        subst hQ
        exact W.vret hx hb hr (fun t ht hW => ⟨⟨_, rfl, (g.fcts [0, 1, 3, 4, 5, 6, 7] rfl), q3_of g hK ht hW⟩, g.2.2.1.F ht⟩) g.2.2.1.2.2 dX4_wipe_59
      · have fc_10 := nle_f c_10
        have b_12 : bd 0 9 v42_1 := ltL fc_10 bv42_1 kb_10 (by decide)
        refine lv_aload_n hx hb dX4_wipe_48 rfl (lv_at hl 1 rfl) ?_
        refine lv_iload_n hx hb dX4_wipe_49 rfl (lv_at hl 0 rfl) ?_
        refine g_callv (va_runV (As := [.int v42_1]) (rest := []) ⟨hx, hb, hml, hown, hts⟩ (r_X4_forgetCall l dC dI L kd tys f H.size g.2.2.2.1 a0_ ma0_ ka0_ v42_1) (cwV 1 hts (gV_ t_1430 t_1431 t_1432 t_197 t_1433) rfl rfl rfl (by decide +kernel) ⟨(Nat.le_of_ble_eq_true rfl), (Nat.le_of_ble_eq_true rfl)⟩) (pre3V g hK ma0_ ka0_ (by decide) (q := (RX4, TX4, 17)) rfl) rfl rfl hl.1 rfl (lv_room (Nat.le_of_ble_eq_true rfl)) dX4_wipe_50 ⟨(Nat.le_of_ble_eq_true rfl), (Nat.le_of_ble_eq_true rfl)⟩) g hK (by decide) (by decide) (fx' := [(4, 14, a0_, .int 0), (4, 6, a0_, .int 0), (4, 5, a0_, .long 0), (4, 4, a0_, .int (-1)), (4, 3, a0_, .int (-1)), (4, 2, a0_, .int (-1)), (4, 1, a0_, .int (-1)), (4, 0, a0_, .int 0)]) rfl (fun fr_13 H locs hp hMr_13 g => ?_)
        have kb_1 : bd 1 1 (1 : Int32) := ⟨by decide, by decide⟩
        obtain ⟨y_14, ey_14⟩ : ∃ z : Int32, z = v42_1 + 1 := ⟨_, rfl⟩
        refine lv_iinc (v := y_14) (lv' := [(1, .int y_14), (0, .ref a0_)]) hx hb dX4_wipe_53 hl (k := 0) rfl (by rw [ey_14]; rfl) (by decide) rfl (fun ls hl => ?_)
        have ty_14 := add_bd ey_14 b_12 kb_1 (by decide)
        have b_15 : bd 1 10 y_14 := add_rg ty_14 b_12 kb_1 (by decide)
        refine lv_goto (tgt := 42) hx hb dX4_wipe_56 (by decide) ?_
        have hl9 := lv_sub hl [0, 1] (by rfl : lv_pick [(1, .int y_14), (0, .ref a0_)] [0, 1] = [(1, .int y_14), (0, .ref a0_)])
        have g9 := g.sub (fx' := [(4, 14, a0_, .int 0), (4, 6, a0_, .int 0), (4, 5, a0_, .long 0), (4, 4, a0_, .int (-1)), (4, 3, a0_, .int (-1)), (4, 2, a0_, .int (-1)), (4, 1, a0_, .int (-1)), (4, 0, a0_, .int 0)]) [0, 1, 2, 3, 4, 5, 6, 7] rfl
        exact ih42  y_14 (bd_sub b_15 (by decide)) (by have h9_0 := b_15; unfold bd at h9_0; have h9_1 := bv42_1; unfold bd at h9_1; have h9_2 := kb_0; unfold bd at h9_2; have h9_3 := kb_1; unfold bd at h9_3; have h9_4 := kb_10; unfold bd at h9_4; have h9_5 := kb_m1; unfold bd at h9_5; omega) _ _ _ _ g9  hl9
  have hl9 := lv_sub hl [0, 1] (by rfl : lv_pick [(1, .int 0), (0, .ref a0_)] [0, 1] = [(1, .int 0), (0, .ref a0_)])
  have g9 := g.sub (fx' := [(4, 14, a0_, .int 0), (4, 6, a0_, .int 0), (4, 5, a0_, .long 0), (4, 4, a0_, .int (-1)), (4, 3, a0_, .int (-1)), (4, 2, a0_, .int (-1)), (4, 1, a0_, .int (-1)), (4, 0, a0_, .int 0)]) [0, 1, 2, 3, 4, 5, 6, 7] rfl
  exact loop_9 (23) 0 (bd_sub kb_0 (by decide)) (by have h9_0 := kb_0; unfold bd at h9_0; have h9_1 := kb_m1; unfold bd at h9_1; omega) _ _ _ _ g9  hl9
set_option maxHeartbeats 4000000 in
set_option maxRecDepth 100000 in
theorem r_X4_breakBy (l : Launch) (dC : Nat → ClassId) (dI : Nat → Nat → Nat) (L : List Nat) (kd : Nat → Nat) (tys : List (ClassId × FieldType)) (f0 : Nat → va_E) (sz : Nat) (hWT : WT L kd tys f0) (a0_ : Nat) (ma0_ : a0_ ∈ L) (ka0_ : kd a0_ = 4) (x1_ : Int32) (x2_ : Int32) (x3_ : Int32) : Met l yX4_breakBy (.code yX4_breakBy cX4_breakBy 4 none :: lw_g) ({ frames := 0, cells := 0, slots := 0, locals := 0 }) (va_Pc [.ref a0_, .int x1_, .int x2_, .int x3_] (P3 (dC, dI) L tys f0 sz)) (va_Qv (fun (f : Nat → va_E) => (True)) (Q3 (dC, dI) L kd tys [(4, 0), (4, 1), (4, 2)] [] f0 sz) (pA L sz)) 0 0 (pA L sz) := by
  refine Met.ofW (cc := cX4_breakBy) (maxL := 4) (ret := none) (by decide) rfl ?_
  intro p e s m args below meth c s₁ B hml hv
  obtain ⟨rfl, hsz, hP, hK, hD0⟩ := hv
  have hx := B.exec
  have hb := B.bytes
  have hr := B.returns
  have hts := atoms_spec (ws := (.code yX4_breakBy cX4_breakBy 4 none :: lw_g)) B.pre
  have hown : s.vm.findClass RX4 = some m.cls := findClass_of_methodNamed B.named
  have hlocks := B.notSynchronized
  subst hsz
  have g : G3 (dC, dI) L kd tys s f0 [(4, 0), (4, 1), (4, 2)] [] f0 s.heap [] [] := G3.start hP hD0 hWT Fs.nil
  have hl := lv_entry ([.ref a0_, .int x1_, .int x2_, .int x3_]) (n := 4) (Nat.le_of_ble_eq_true rfl)
  rw [lg_entry_eq]
  generalize (lg_sl ([.ref a0_, .int x1_, .int x2_, .int x3_]) ++ List.replicate (4 - (lg_sl ([.ref a0_, .int x1_, .int x2_, .int x3_])).length) Slot.unset).toArray = ls at hl ⊢
  have hl : lv_has ls 4 [(0, .ref a0_), (1, .int x1_), (2, .int x2_), (3, .int x3_)] := hl
  refine W_q (fun Q hQ => ?_)
  refine lv_aload_n hx hb dX4_breakBy_0 rfl (lv_at hl 0 rfl) ?_
  refine lv_iload_n hx hb dX4_breakBy_1 rfl (lv_at hl 1 rfl) ?_
  refine g_put (C := RX4) (T := TX4) (N := 17) hx hb hts (mc_ inX4) tyX4 tyX4_ok nmX4 hown hK g ma0_ ka0_ (by decide) rfl 0 (by decide) (hts _ (List.mem_cons_of_mem _ t_836)) (fun _ h9 => h9) rfl rfl (okV_i (bdT x1_)) rfl rfl (by decide) (Or.inr (Or.inl (by decide))) (fx' := []) rfl dX4_breakBy_2 (fun f H locs hM_1 g => ?_)
  refine lv_aload_n hx hb dX4_breakBy_5 rfl (lv_at hl 0 rfl) ?_
  refine lv_iload_n hx hb dX4_breakBy_6 rfl (lv_at hl 2 rfl) ?_
  refine g_put (C := RX4) (T := TX4) (N := 17) hx hb hts (mc_ inX4) tyX4 tyX4_ok nmX4 hown hK g ma0_ ka0_ (by decide) rfl 1 (by decide) (hts _ (List.mem_cons_of_mem _ t_839)) (fun _ h9 => h9) rfl rfl (okV_i (bdT x2_)) rfl rfl (by decide) (Or.inr (Or.inl (by decide))) (fx' := [(4, 0, a0_, .int x1_)]) rfl dX4_breakBy_7 (fun f H locs hM_2 g => ?_)
  refine lv_aload_n hx hb dX4_breakBy_10 rfl (lv_at hl 0 rfl) ?_
  refine lv_iload_n hx hb dX4_breakBy_11 rfl (lv_at hl 3 rfl) ?_
  refine g_put (C := RX4) (T := TX4) (N := 17) hx hb hts (mc_ inX4) tyX4 tyX4_ok nmX4 hown hK g ma0_ ka0_ (by decide) rfl 2 (by decide) (hts _ (List.mem_cons_of_mem _ t_841)) (fun _ h9 => h9) rfl rfl (okV_i (bdT x3_)) rfl rfl (by decide) (Or.inr (Or.inl (by decide))) (fx' := [(4, 1, a0_, .int x2_), (4, 0, a0_, .int x1_)]) rfl dX4_breakBy_12 (fun f H locs hM_3 g => ?_)
  subst hQ
  exact W.vret hx hb hr (fun t ht hW => ⟨⟨_, rfl, trivial, q3_of g hK ht hW⟩, g.2.2.1.F ht⟩) g.2.2.1.2.2 dX4_breakBy_15
set_option maxHeartbeats 4000000 in
set_option maxRecDepth 100000 in
theorem r_X4_breakAt (l : Launch) (dC : Nat → ClassId) (dI : Nat → Nat → Nat) (L : List Nat) (kd : Nat → Nat) (tys : List (ClassId × FieldType)) (f0 : Nat → va_E) (sz : Nat) (hWT : WT L kd tys f0) (a0_ : Nat) (ma0_ : a0_ ∈ L) (ka0_ : kd a0_ = 4) (x1_ : Int32) (x2_ : Int32) (x3_ : Int32) : Met l yX4_breakAt (.code yX4_breakAt cX4_breakAt 4 none :: lw_g) ({ frames := 0, cells := 0, slots := 0, locals := 0 }) (va_Pc [.ref a0_, .int x1_, .int x2_, .int x3_] (P3 (dC, dI) L tys f0 sz)) (va_Qv (fun (f : Nat → va_E) => (True)) (Q3 (dC, dI) L kd tys [(4, 0), (4, 3), (4, 4)] [] f0 sz) (pA L sz)) 0 0 (pA L sz) := by
  refine Met.ofW (cc := cX4_breakAt) (maxL := 4) (ret := none) (by decide) rfl ?_
  intro p e s m args below meth c s₁ B hml hv
  obtain ⟨rfl, hsz, hP, hK, hD0⟩ := hv
  have hx := B.exec
  have hb := B.bytes
  have hr := B.returns
  have hts := atoms_spec (ws := (.code yX4_breakAt cX4_breakAt 4 none :: lw_g)) B.pre
  have hown : s.vm.findClass RX4 = some m.cls := findClass_of_methodNamed B.named
  have hlocks := B.notSynchronized
  subst hsz
  have g : G3 (dC, dI) L kd tys s f0 [(4, 0), (4, 3), (4, 4)] [] f0 s.heap [] [] := G3.start hP hD0 hWT Fs.nil
  have hl := lv_entry ([.ref a0_, .int x1_, .int x2_, .int x3_]) (n := 4) (Nat.le_of_ble_eq_true rfl)
  rw [lg_entry_eq]
  generalize (lg_sl ([.ref a0_, .int x1_, .int x2_, .int x3_]) ++ List.replicate (4 - (lg_sl ([.ref a0_, .int x1_, .int x2_, .int x3_])).length) Slot.unset).toArray = ls at hl ⊢
  have hl : lv_has ls 4 [(0, .ref a0_), (1, .int x1_), (2, .int x2_), (3, .int x3_)] := hl
  refine W_q (fun Q hQ => ?_)
  refine lv_aload_n hx hb dX4_breakAt_0 rfl (lv_at hl 0 rfl) ?_
  refine lv_iload_n hx hb dX4_breakAt_1 rfl (lv_at hl 1 rfl) ?_
  refine g_put (C := RX4) (T := TX4) (N := 17) hx hb hts (mc_ inX4) tyX4 tyX4_ok nmX4 hown hK g ma0_ ka0_ (by decide) rfl 0 (by decide) (hts _ (List.mem_cons_of_mem _ t_836)) (fun _ h9 => h9) rfl rfl (okV_i (bdT x1_)) rfl rfl (by decide) (Or.inr (Or.inl (by decide))) (fx' := []) rfl dX4_breakAt_2 (fun f H locs hM_1 g => ?_)
  refine lv_aload_n hx hb dX4_breakAt_5 rfl (lv_at hl 0 rfl) ?_
  refine lv_iload_n hx hb dX4_breakAt_6 rfl (lv_at hl 2 rfl) ?_
  refine g_put (C := RX4) (T := TX4) (N := 17) hx hb hts (mc_ inX4) tyX4 tyX4_ok nmX4 hown hK g ma0_ ka0_ (by decide) rfl 3 (by decide) (hts _ (List.mem_cons_of_mem _ t_843)) (fun _ h9 => h9) rfl rfl (okV_i (bdT x2_)) rfl rfl (by decide) (Or.inr (Or.inl (by decide))) (fx' := [(4, 0, a0_, .int x1_)]) rfl dX4_breakAt_7 (fun f H locs hM_2 g => ?_)
  refine lv_aload_n hx hb dX4_breakAt_10 rfl (lv_at hl 0 rfl) ?_
  refine lv_iload_n hx hb dX4_breakAt_11 rfl (lv_at hl 3 rfl) ?_
  refine g_put (C := RX4) (T := TX4) (N := 17) hx hb hts (mc_ inX4) tyX4 tyX4_ok nmX4 hown hK g ma0_ ka0_ (by decide) rfl 4 (by decide) (hts _ (List.mem_cons_of_mem _ t_845)) (fun _ h9 => h9) rfl rfl (okV_i (bdT x3_)) rfl rfl (by decide) (Or.inr (Or.inl (by decide))) (fx' := [(4, 3, a0_, .int x2_), (4, 0, a0_, .int x1_)]) rfl dX4_breakAt_12 (fun f H locs hM_3 g => ?_)
  subst hQ
  exact W.vret hx hb hr (fun t ht hW => ⟨⟨_, rfl, trivial, q3_of g hK ht hW⟩, g.2.2.1.F ht⟩) g.2.2.1.2.2 dX4_breakAt_15
set_option maxHeartbeats 4000000 in
set_option maxRecDepth 100000 in
theorem r_X4_brokenPlace (l : Launch) (dC : Nat → ClassId) (dI : Nat → Nat → Nat) (L : List Nat) (kd : Nat → Nat) (tys : List (ClassId × FieldType)) (f0 : Nat → va_E) (sz : Nat) (hWT : WT L kd tys f0) (a0_ : Nat) (ma0_ : a0_ ∈ L) (ka0_ : kd a0_ = 4) (a1_ : Nat) (ma1_ : a1_ ∈ L) (ka1_ : kd a1_ = 7) : Met l yX4_brokenPlace (.code yX4_brokenPlace cX4_brokenPlace 2 (some .int) :: lw_g) ({ frames := 0, cells := 0, slots := 0, locals := 0 }) (va_Pc [.ref a0_, .ref a1_] (P3 (dC, dI) L tys f0 sz)) (va_Qi (fun (r : Int32) (f : Nat → va_E) => (True)) (Q3 (dC, dI) L kd tys [] [] f0 sz) (pA L sz)) 0 0 (pA L sz) := by
  refine Met.ofW (cc := cX4_brokenPlace) (maxL := 2) (ret := (some .int)) (by decide) rfl ?_
  intro p e s m args below meth c s₁ B hml hv
  obtain ⟨rfl, hsz, hP, hK, hD0⟩ := hv
  have hx := B.exec
  have hb := B.bytes
  have hr := B.returns
  have hts := atoms_spec (ws := (.code yX4_brokenPlace cX4_brokenPlace 2 (some .int) :: lw_g)) B.pre
  have hown : s.vm.findClass RX4 = some m.cls := findClass_of_methodNamed B.named
  have hlocks := B.notSynchronized
  subst hsz
  have g : G3 (dC, dI) L kd tys s f0 [] [] f0 s.heap [] [] := G3.start hP hD0 hWT Fs.nil
  have hl := lv_entry ([.ref a0_, .ref a1_]) (n := 2) (Nat.le_of_ble_eq_true rfl)
  rw [lg_entry_eq]
  generalize (lg_sl ([.ref a0_, .ref a1_]) ++ List.replicate (2 - (lg_sl ([.ref a0_, .ref a1_])).length) Slot.unset).toArray = ls at hl ⊢
  have hl : lv_has ls 2 [(0, .ref a0_), (1, .ref a1_)] := hl
  refine W_q (fun Q hQ => ?_)
  refine lv_aload_n hx hb dX4_brokenPlace_0 rfl (lv_at hl 0 rfl) ?_
  refine g_geti (C := RX4) (T := TX4) (N := 17) hx hb hts (mc_ inX4) hown hK g ma0_ ka0_ (by decide) rfl 1 (by decide) rfl (hts _ (List.mem_cons_of_mem _ t_839)) (fun _ h9 => h9) rfl dX4_brokenPlace_1 (fun x_1 bx_1 g => ?_)
  have kb_0 : bd 0 0 (0 : Int32) := ⟨by decide, by decide⟩
  refine lv_if_lt (tgt := 30) hx hb dX4_brokenPlace_4 (by decide) (fun c_2 => ?_) (fun c_2 => ?_)
  · have fc_2 := lt_f c_2
    have b_3 : bd (-2147483648) (-1) x_1 := ltL fc_2 (bdT x_1) kb_0 (by decide)
    refine lv_iconst (v := (-1)) hx hb dX4_brokenPlace_30 (by decide) ?_
    subst hQ
    exact W.iret (v := (-1)) hx hb hr (fun t ht hW => ⟨⟨_, _, rfl, trivial, q3_of g hK ht hW⟩, g.2.2.1.F ht⟩) g.2.2.1.2.2 dX4_brokenPlace_31
  · have fc_2 := nlt_f c_2
    have b_4 : bd 0 2147483647 x_1 := leR fc_2 kb_0 (bdT x_1) (by decide)
    refine lv_aload_n hx hb dX4_brokenPlace_7 rfl (lv_at hl 0 rfl) ?_
    refine g_getk (C := RX4) (T := TX4) (N := 17) hx hb hts (mc_ inX4) hown hK g rfl 1 (by decide) rfl (hts _ (List.mem_cons_of_mem _ t_839)) (fun _ h9 => h9) 0 rfl dX4_brokenPlace_8 ?_
    refine lv_aload_n hx hb dX4_brokenPlace_11 rfl (lv_at hl 1 rfl) ?_
    refine g_geti (C := RX7) (T := TX7) (N := 19) hx hb hts (mc_ inX7) hown hK g ma1_ ka1_ (by decide) rfl 13 (by decide) rfl (hts _ (List.mem_cons_of_mem _ t_667)) (fun _ h9 => h9) rfl dX4_brokenPlace_12 (fun x_5 bx_5 g => ?_)
    refine lv_icmp_ge (tgt := 30) hx hb dX4_brokenPlace_15 (by decide) (fun c_6 => ?_) (fun c_6 => ?_)
    · have fc_6 := le_f c_6
      refine lv_iconst (v := (-1)) hx hb dX4_brokenPlace_30 (by decide) ?_
      subst hQ
      exact W.iret (v := (-1)) hx hb hr (fun t ht hW => ⟨⟨_, _, rfl, trivial, q3_of g hK ht hW⟩, g.2.2.1.F ht⟩) g.2.2.1.2.2 dX4_brokenPlace_31
    · have fc_6 := nle_f c_6
      have b_7 : bd 0 499 x_1 := ltL fc_6 b_4 bx_5 (by decide)
      have b_8 : bd 1 500 x_5 := ltR fc_6 b_4 bx_5 (by decide)
      refine lv_aload_n hx hb dX4_brokenPlace_18 rfl (lv_at hl 1 rfl) ?_
      refine g_getr (K := 142) (C := RX7) (T := TX7) (N := 19) hx hb hts (mc_ inX7) hown hK g ma1_ ka1_ (by decide) rfl 9 (by decide) rfl (hts _ (List.mem_cons_of_mem _ t_655)) (fun _ h9 => h9) rfl dX4_brokenPlace_19 (fun a_9 ma_9 ka_9 g => ?_)
      refine lv_aload_n hx hb dX4_brokenPlace_22 rfl (lv_at hl 0 rfl) ?_
      refine g_getk (C := RX4) (T := TX4) (N := 17) hx hb hts (mc_ inX4) hown hK g rfl 1 (by decide) rfl (hts _ (List.mem_cons_of_mem _ t_839)) (fun _ h9 => h9) 2 rfl dX4_brokenPlace_23 ?_
      refine g_iald hx hb hK g ma_9 ka_9 (by decide) rfl (in_bd b_7 (by decide)) dX4_brokenPlace_26 (fun x_10 bx_10 cx_10 => ?_)
      refine lv_goto (tgt := 31) hx hb dX4_brokenPlace_27 (by decide) ?_
      subst hQ
      exact W.iret (v := x_10) hx hb hr (fun t ht hW => ⟨⟨_, _, rfl, trivial, q3_of g hK ht hW⟩, g.2.2.1.F ht⟩) g.2.2.1.2.2 dX4_brokenPlace_31
set_option maxHeartbeats 4000000 in
set_option maxRecDepth 100000 in
theorem r_X5_leaveMember (l : Launch) (dC : Nat → ClassId) (dI : Nat → Nat → Nat) (L : List Nat) (kd : Nat → Nat) (tys : List (ClassId × FieldType)) (f0 : Nat → va_E) (sz : Nat) (hWT : WT L kd tys f0) (a0_ : Nat) (ma0_ : a0_ ∈ L) (ka0_ : kd a0_ = 5) : Met l yX5_leaveMember (.code yX5_leaveMember cX5_leaveMember 1 none :: lw_g) ({ frames := 0, cells := 0, slots := 0, locals := 0 }) (va_Pc [.ref a0_] (P3 (dC, dI) L tys f0 sz)) (va_Qv (fun (f : Nat → va_E) => (Fs L kd f [(5, 8, a0_, .int 0), (5, 7, a0_, .int 0), (5, 6, a0_, .int 0), (5, 4, a0_, .int 0)])) (Q3 (dC, dI) L kd tys [(5, 4), (5, 6), (5, 7), (5, 8)] [] f0 sz) (pA L sz)) 0 0 (pA L sz) := by
  refine Met.ofW (cc := cX5_leaveMember) (maxL := 1) (ret := none) (by decide) rfl ?_
  intro p e s m args below meth c s₁ B hml hv
  obtain ⟨rfl, hsz, hP, hK, hD0⟩ := hv
  have hx := B.exec
  have hb := B.bytes
  have hr := B.returns
  have hts := atoms_spec (ws := (.code yX5_leaveMember cX5_leaveMember 1 none :: lw_g)) B.pre
  have hown : s.vm.findClass RX5 = some m.cls := findClass_of_methodNamed B.named
  have hlocks := B.notSynchronized
  subst hsz
  have g : G3 (dC, dI) L kd tys s f0 [(5, 4), (5, 6), (5, 7), (5, 8)] [] f0 s.heap [] [] := G3.start hP hD0 hWT Fs.nil
  have hl := lv_entry ([.ref a0_]) (n := 1) (Nat.le_of_ble_eq_true rfl)
  rw [lg_entry_eq]
  generalize (lg_sl ([.ref a0_]) ++ List.replicate (1 - (lg_sl ([.ref a0_])).length) Slot.unset).toArray = ls at hl ⊢
  have hl : lv_has ls 1 [(0, .ref a0_)] := hl
  refine W_q (fun Q hQ => ?_)
  refine lv_aload_n hx hb dX5_leaveMember_0 rfl (lv_at hl 0 rfl) ?_
  refine lv_iconst (v := 0) hx hb dX5_leaveMember_1 (by decide) ?_
  have kb_0 : bd 0 0 (0 : Int32) := ⟨by decide, by decide⟩
  refine g_put (C := RX5) (T := TX5) (N := 9) hx hb hts (mc_ inX5) tyX5 tyX5_ok nmX5 hown hK g ma0_ ka0_ (by decide) rfl 4 (by decide) (hts _ (List.mem_cons_of_mem _ t_336)) (fun _ h9 => h9) rfl rfl (okV_i (bd_sub kb_0 (by decide))) rfl rfl (by decide) (Or.inr (Or.inl (by decide))) (fx' := []) rfl dX5_leaveMember_2 (fun f H locs hM_1 g => ?_)
  refine lv_aload_n hx hb dX5_leaveMember_5 rfl (lv_at hl 0 rfl) ?_
  refine lv_iconst (v := 0) hx hb dX5_leaveMember_6 (by decide) ?_
  refine g_put (C := RX5) (T := TX5) (N := 9) hx hb hts (mc_ inX5) tyX5 tyX5_ok nmX5 hown hK g ma0_ ka0_ (by decide) rfl 6 (by decide) (hts _ (List.mem_cons_of_mem _ t_340)) (fun _ h9 => h9) rfl rfl (okV_i (bd_sub kb_0 (by decide))) rfl rfl (by decide) (Or.inr (Or.inl (by decide))) (fx' := [(5, 4, a0_, .int 0)]) rfl dX5_leaveMember_7 (fun f H locs hM_2 g => ?_)
  refine lv_aload_n hx hb dX5_leaveMember_10 rfl (lv_at hl 0 rfl) ?_
  refine lv_iconst (v := 0) hx hb dX5_leaveMember_11 (by decide) ?_
  refine g_put (C := RX5) (T := TX5) (N := 9) hx hb hts (mc_ inX5) tyX5 tyX5_ok nmX5 hown hK g ma0_ ka0_ (by decide) rfl 7 (by decide) (hts _ (List.mem_cons_of_mem _ t_342)) (fun _ h9 => h9) rfl rfl (okV_i (bd_sub kb_0 (by decide))) rfl rfl (by decide) (Or.inr (Or.inl (by decide))) (fx' := [(5, 6, a0_, .int 0), (5, 4, a0_, .int 0)]) rfl dX5_leaveMember_12 (fun f H locs hM_3 g => ?_)
  refine lv_aload_n hx hb dX5_leaveMember_15 rfl (lv_at hl 0 rfl) ?_
  refine lv_iconst (v := 0) hx hb dX5_leaveMember_16 (by decide) ?_
  refine g_put (C := RX5) (T := TX5) (N := 9) hx hb hts (mc_ inX5) tyX5 tyX5_ok nmX5 hown hK g ma0_ ka0_ (by decide) rfl 8 (by decide) (hts _ (List.mem_cons_of_mem _ t_345)) (fun _ h9 => h9) rfl rfl (okV_i (bd_sub kb_0 (by decide))) rfl rfl (by decide) (Or.inr (Or.inl (by decide))) (fx' := [(5, 7, a0_, .int 0), (5, 6, a0_, .int 0), (5, 4, a0_, .int 0)]) rfl dX5_leaveMember_17 (fun f H locs hM_4 g => ?_)
  subst hQ
  exact W.vret hx hb hr (fun t ht hW => ⟨⟨_, rfl, (g.fcts [0, 1, 2, 3] rfl), q3_of g hK ht hW⟩, g.2.2.1.F ht⟩) g.2.2.1.2.2 dX5_leaveMember_20
