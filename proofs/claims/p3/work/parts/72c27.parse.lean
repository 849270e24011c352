set_option maxHeartbeats 4000000 in
set_option maxRecDepth 100000 in
theorem r_X2_findNamed (l : Launch) (dC : Nat → ClassId) (dI : Nat → Nat → Nat) (L : List Nat) (kd : Nat → Nat) (tys : List (ClassId × FieldType)) (f0 : Nat → va_E) (sz : Nat) (hWT : WT L kd tys f0) (a0_ : Nat) (ma0_ : a0_ ∈ L) (ka0_ : kd a0_ = 2) (q0_ : Nat) (mq0_ : q0_ ∈ L) (kq0_ : kd q0_ = 8) (q1_ : Nat) (mq1_ : q1_ ∈ L) (kq1_ : kd q1_ = 5) (q2_ : Nat) (mq2_ : q2_ ∈ L) (kq2_ : kd q2_ = 7) (q3_ : Nat) (mq3_ : q3_ ∈ L) (kq3_ : kd q3_ = 9) (q4_ : Nat) (mq4_ : q4_ ∈ L) (kq4_ : kd q4_ = 9) (y0_ : Int32) (by0_ : bd 1201 1201 y0_) (y1_ : Int32) (by1_ : bd 1 7 y1_) (hfx : Fs L kd f0 [(2, 0, a0_, .ref q0_), (2, 1, a0_, .ref q1_), (2, 3, a0_, .ref q2_), (2, 4, a0_, .ref q3_), (5, 1, q1_, .ref q4_), (8, 6, q0_, .int y0_), (8, 8, q0_, .int y1_)]) : Met l yX2_findNamed (.code yX2_findNamed cX2_findNamed 6 (some .boolean) :: lw_g) ({ frames := 2, cells := 0, slots := 0, locals := 46 }) (va_Pc [.ref a0_] (P3 (dC, dI) L tys f0 sz)) (va_Qi (fun (r : Int32) (f : Nat → va_E) => (bd 0 1 r ∧ ∃ z0_ : Int32, bd 1201 1201 z0_ ∧ Fs L kd f [(8, 6, q0_, .int z0_)])) (Q3 (dC, dI) L kd tys [(2, 12), (2, 13), (2, 14), (2, 15), (8, 6)] [] f0 sz) (pA L sz)) 0 0 (pA L sz) := by
  refine Met.ofW (cc := cX2_findNamed) (maxL := 6) (ret := (some .boolean)) (by decide) rfl ?_
  intro p e s m args below meth c s₁ B hml hv
  obtain ⟨rfl, hsz, hP, hK, hD0⟩ := hv
  have hx := B.exec
  have hb := B.bytes
  have hr := B.returns
  have hts := atoms_spec (ws := (.code yX2_findNamed cX2_findNamed 6 (some .boolean) :: lw_g)) B.pre
  have hown : s.vm.findClass RX2 = some m.cls := findClass_of_methodNamed B.named
  have hlocks := B.notSynchronized
  subst hsz
  have g : G3 (dC, dI) L kd tys s f0 [(2, 12), (2, 13), (2, 14), (2, 15), (8, 6)] [] f0 s.heap [] [(2, 0, a0_, .ref q0_), (2, 1, a0_, .ref q1_), (2, 3, a0_, .ref q2_), (2, 4, a0_, .ref q3_), (5, 1, q1_, .ref q4_), (8, 6, q0_, .int y0_), (8, 8, q0_, .int y1_)] := G3.start hP hD0 hWT hfx
  have hl := lv_entry ([.ref a0_]) (n := 6) (Nat.le_of_ble_eq_true rfl)
  rw [lg_entry_eq]
  generalize (lg_sl ([.ref a0_]) ++ List.replicate (6 - (lg_sl ([.ref a0_])).length) Slot.unset).toArray = ls at hl ⊢
  have hl : lv_has ls 6 [(0, .ref a0_)] := hl
  refine W_q (fun Q hQ => ?_)
  refine lv_aload_n hx hb dX2_findNamed_0 rfl (lv_at hl 0 rfl) ?_
  refine g_getk (C := RX2) (T := TX2) (N := 16) hx hb hts (mc_ inX2) hown hK g rfl 0 (by decide) rfl (hts _ (List.mem_cons_of_mem _ t_416)) (fun _ h9 => h9) 0 rfl dX2_findNamed_1 ?_
  refine g_calli (va_runV (As := []) (rest := []) ⟨hx, hb, hml, hown, hts⟩ (r_X8_place l dC dI L kd tys f0 s.heap.size g.2.2.2.1 q0_ mq0_ kq0_) (cwV 0 hts (gV_ t_1110 t_1111 t_1112 t_184 t_1113) rfl rfl rfl (by decide +kernel) ⟨(Nat.le_of_ble_eq_true rfl), (Nat.le_of_ble_eq_true rfl)⟩) (pre3V g hK mq0_ kq0_ (by decide) (q := (RX8, TX8, 10)) rfl) rfl rfl hl.1 rfl (lv_room (Nat.le_of_ble_eq_true rfl)) dX2_findNamed_4 ⟨(Nat.le_of_ble_eq_true rfl), (Nat.le_of_ble_eq_true rfl)⟩) g hK (by decide) (by decide) (fx' := [(2, 0, a0_, .ref q0_), (2, 1, a0_, .ref q1_), (2, 3, a0_, .ref q2_), (2, 4, a0_, .ref q3_), (5, 1, q1_, .ref q4_), (8, 6, q0_, .int y0_), (8, 8, q0_, .int y1_)]) rfl (fun r_1 fr_1 H locs hp hMr_1 g => ?_)
  refine lv_istore_n (lv' := [(1, .int r_1), (0, .ref a0_)]) hx hb dX2_findNamed_7 rfl hl (by decide) rfl (fun ls hl => ?_)
  refine lv_aload_n hx hb dX2_findNamed_8 rfl (lv_at hl 1 rfl) ?_
  refine g_getk (C := RX2) (T := TX2) (N := 16) hx hb hts (mc_ inX2) hown hK g rfl 0 (by decide) rfl (hts _ (List.mem_cons_of_mem _ t_416)) (fun _ h9 => h9) 0 rfl dX2_findNamed_9 ?_
  refine g_calll (va_runV (As := []) (rest := []) ⟨hx, hb, hml, hown, hts⟩ (r_X8_value l dC dI L kd tys fr_1 H.size g.2.2.2.1 q0_ mq0_ kq0_) (cwV 0 hts (gV_ t_1114 t_1115 t_1116 t_184 t_1117) rfl rfl rfl (by decide +kernel) ⟨(Nat.le_of_ble_eq_true rfl), (Nat.le_of_ble_eq_true rfl)⟩) (pre3V g hK mq0_ kq0_ (by decide) (q := (RX8, TX8, 10)) rfl) rfl rfl hl.1 rfl (lv_room (Nat.le_of_ble_eq_true rfl)) dX2_findNamed_12 ⟨(Nat.le_of_ble_eq_true rfl), (Nat.le_of_ble_eq_true rfl)⟩) g hK (by decide) (by decide) (fx' := [(2, 0, a0_, .ref q0_), (2, 1, a0_, .ref q1_), (2, 3, a0_, .ref q2_), (2, 4, a0_, .ref q3_), (5, 1, q1_, .ref q4_), (8, 6, q0_, .int y0_), (8, 8, q0_, .int y1_)]) rfl (fun r_2 fr_2 H locs hp hMr_2 g => ?_)
  refine lv_lstore_n (lv' := [(2, .long r_2), (1, .int r_1), (0, .ref a0_)]) hx hb dX2_findNamed_15 rfl hl (by decide) rfl (fun ls hl => ?_)
  refine lv_aload_n hx hb dX2_findNamed_16 rfl (lv_at hl 2 rfl) ?_
  refine g_getk (C := RX2) (T := TX2) (N := 16) hx hb hts (mc_ inX2) hown hK g rfl 0 (by decide) rfl (hts _ (List.mem_cons_of_mem _ t_416)) (fun _ h9 => h9) 0 rfl dX2_findNamed_17 ?_
  refine g_callv (va_runV (As := []) (rest := []) ⟨hx, hb, hml, hown, hts⟩ (r_X8_next_2 l dC dI L kd tys fr_2 H.size g.2.2.2.1 q0_ mq0_ kq0_ y0_ by0_ (g.fcts [5] rfl)) (cwV 0 hts (gV_ t_1131 t_1103 t_1104 t_184 t_1105) rfl rfl rfl (by decide +kernel) ⟨(Nat.le_of_ble_eq_true rfl), (Nat.le_of_ble_eq_true rfl)⟩) (pre3V g hK mq0_ kq0_ (by decide) (q := (RX8, TX8, 10)) rfl) rfl rfl hl.1 rfl (lv_room (Nat.le_of_ble_eq_true rfl)) dX2_findNamed_20 ⟨(Nat.le_of_ble_eq_true rfl), (Nat.le_of_ble_eq_true rfl)⟩) g hK (by decide) (by decide) (fx' := [(2, 0, a0_, .ref q0_), (2, 1, a0_, .ref q1_), (2, 3, a0_, .ref q2_), (2, 4, a0_, .ref q3_), (5, 1, q1_, .ref q4_), (8, 6, q0_, .int y0_), (8, 8, q0_, .int y1_)]) rfl (fun fr_3 H locs hp hMr_3 g => ?_)
  refine lv_aload_n hx hb dX2_findNamed_23 rfl (lv_at hl 2 rfl) ?_
  refine g_getk (C := RX2) (T := TX2) (N := 16) hx hb hts (mc_ inX2) hown hK g rfl 0 (by decide) rfl (hts _ (List.mem_cons_of_mem _ t_416)) (fun _ h9 => h9) 0 rfl dX2_findNamed_24 ?_
  refine g_calli (va_runV (As := []) (rest := []) ⟨hx, hb, hml, hown, hts⟩ (r_X8_atBracket_2 l dC dI L kd tys fr_3 H.size g.2.2.2.1 q0_ mq0_ kq0_ y0_ by0_ (g.fcts [5] rfl)) (cwV 0 hts (gV_ t_1358 t_1240 t_1241 t_184 t_1242) rfl rfl rfl (by decide +kernel) ⟨(Nat.le_of_ble_eq_true rfl), (Nat.le_of_ble_eq_true rfl)⟩) (pre3V g hK mq0_ kq0_ (by decide) (q := (RX8, TX8, 10)) rfl) rfl rfl hl.1 rfl (lv_room (Nat.le_of_ble_eq_true rfl)) dX2_findNamed_27 ⟨(Nat.le_of_ble_eq_true rfl), (Nat.le_of_ble_eq_true rfl)⟩) g hK (by decide) (by decide) (fx' := [(2, 0, a0_, .ref q0_), (2, 1, a0_, .ref q1_), (2, 3, a0_, .ref q2_), (2, 4, a0_, .ref q3_), (5, 1, q1_, .ref q4_), (8, 6, q0_, .int y0_), (8, 8, q0_, .int y1_)]) rfl (fun r_4 fr_4 H locs hp hMr_4 g => ?_)
  obtain ⟨h_5, -⟩ := hp
  refine lv_istore (lv' := [(4, .int r_4), (2, .long r_2), (1, .int r_1), (0, .ref a0_)]) hx hb dX2_findNamed_30 hl (by decide) rfl (fun ls hl => ?_)
  refine lv_iload hx hb dX2_findNamed_32 (lv_at hl 0 rfl) ?_
  have kb_0 : bd 0 0 (0 : Int32) := ⟨by decide, by decide⟩
  refine lv_if_eq (tgt := 52) hx hb dX2_findNamed_34 (by decide) (fun c_6 => ?_) (fun c_6 => ?_)
  · have fc_6 := eq_f c_6
    have b_7 : bd 0 0 r_4 := eqX fc_6 h_5 kb_0 (by decide)
    refine lv_aload_n hx hb dX2_findNamed_52 rfl (lv_at hl 3 rfl) ?_
    refine g_getk (C := RX2) (T := TX2) (N := 16) hx hb hts (mc_ inX2) hown hK g rfl 1 (by decide) rfl (hts _ (List.mem_cons_of_mem _ t_417)) (fun _ h9 => h9) 1 rfl dX2_findNamed_53 ?_
    refine lv_lload_n hx hb dX2_findNamed_56 rfl (lv_at hl 1 rfl) ?_
    refine g_calli (va_runV (As := [.long r_2]) (rest := []) ⟨hx, hb, hml, hown, hts⟩ (r_X5_placeNamed l dC dI L kd tys fr_4 H.size g.2.2.2.1 q1_ mq1_ kq1_ r_2 q4_ mq4_ kq4_ (g.fcts [4] rfl)) (cwV 1 hts (gV_ t_1317 t_1252 t_1253 t_189 t_1254) rfl rfl rfl (by decide +kernel) ⟨(Nat.le_of_ble_eq_true rfl), (Nat.le_of_ble_eq_true rfl)⟩) (pre3V g hK mq1_ kq1_ (by decide) (q := (RX5, TX5, 9)) rfl) rfl rfl hl.1 rfl (lv_room (Nat.le_of_ble_eq_true rfl)) dX2_findNamed_57 ⟨(Nat.le_of_ble_eq_true rfl), (Nat.le_of_ble_eq_true rfl)⟩) g hK (by decide) (by decide) (fx' := [(2, 0, a0_, .ref q0_), (2, 1, a0_, .ref q1_), (2, 3, a0_, .ref q2_), (2, 4, a0_, .ref q3_), (5, 1, q1_, .ref q4_), (8, 6, q0_, .int y0_), (8, 8, q0_, .int y1_)]) rfl (fun r_8 fr_8 H locs hp hMr_8 g => ?_)
    obtain ⟨h_9, -⟩ := hp
    refine lv_istore (lv' := [(5, .int r_8), (4, .int r_4), (2, .long r_2), (1, .int r_1), (0, .ref a0_)]) hx hb dX2_findNamed_60 hl (by decide) rfl (fun ls hl => ?_)
    refine lv_iload hx hb dX2_findNamed_62 (lv_at hl 0 rfl) ?_
    refine lv_iconst (v := (-1)) hx hb dX2_findNamed_64 (by decide) ?_
    have kb_m1 : bd (-1) (-1) ((-1) : Int32) := ⟨by decide, by decide⟩
    refine lv_icmp_ne (tgt := 80) hx hb dX2_findNamed_65 (by decide) (fun c_10 => ?_) (fun c_10 => ?_)
    · have fc_10 := neq_f c_10
      have b_11 : bd 0 26 r_8 := neX fc_10 h_9 kb_m1 (by decide)
      refine lv_iload hx hb dX2_findNamed_80 (lv_at hl 1 rfl) ?_
      refine lv_if_eq (tgt := 125) hx hb dX2_findNamed_82 (by decide) (fun c_12 => ?_) (fun c_12 => ?_)
      · have fc_12 := eq_f c_12
        refine lv_aload_n hx hb dX2_findNamed_125 rfl (lv_at hl 4 rfl) ?_
        refine g_getk (C := RX2) (T := TX2) (N := 16) hx hb hts (mc_ inX2) hown hK g rfl 4 (by decide) rfl (hts _ (List.mem_cons_of_mem _ t_420)) (fun _ h9 => h9) 3 rfl dX2_findNamed_126 ?_
        refine lv_iload hx hb dX2_findNamed_129 (lv_at hl 0 rfl) ?_
        refine g_calli (va_runV (As := [.int r_8]) (rest := []) ⟨hx, hb, hml, hown, hts⟩ (r_X9_isRow l dC dI L kd tys fr_8 H.size g.2.2.2.1 q3_ mq3_ kq3_ r_8) (cwV 1 hts (gV_ t_1392 t_1257 t_1258 t_192 t_1259) rfl rfl rfl (by decide +kernel) ⟨(Nat.le_of_ble_eq_true rfl), (Nat.le_of_ble_eq_true rfl)⟩) (pre3V g hK mq3_ kq3_ (by decide) (q := (RX9, TX9, 13)) rfl) rfl rfl hl.1 rfl (lv_room (Nat.le_of_ble_eq_true rfl)) dX2_findNamed_131 ⟨(Nat.le_of_ble_eq_true rfl), (Nat.le_of_ble_eq_true rfl)⟩) g hK (by decide) (by decide) (fx' := [(2, 0, a0_, .ref q0_), (2, 1, a0_, .ref q1_), (2, 3, a0_, .ref q2_), (2, 4, a0_, .ref q3_), (5, 1, q1_, .ref q4_), (8, 6, q0_, .int y0_), (8, 8, q0_, .int y1_)]) rfl (fun r_13 fr_13 H locs hp hMr_13 g => ?_)
        rcases hp with ⟨h_14, -⟩ | ⟨h_15, h_16, x_17, h_18, hF_19⟩
        · obtain rfl : r_13 = 0 := h_14
          refine lv_aload_n hx hb dX2_findNamed_134 rfl (lv_at hl 4 rfl) ?_
          refine g_getk (C := RX2) (T := TX2) (N := 16) hx hb hts (mc_ inX2) hown hK g rfl 0 (by decide) rfl (hts _ (List.mem_cons_of_mem _ t_416)) (fun _ h9 => h9) 0 rfl dX2_findNamed_135 ?_
          refine g_calli (va_runV (As := []) (rest := [.int 0]) ⟨hx, hb, hml, hown, hts⟩ (r_X8_kind_2 l dC dI L kd tys fr_13 H.size g.2.2.2.1 q0_ mq0_ kq0_ y0_ by0_ (g.fcts [5] rfl)) (cwV 0 hts (gV_ t_1118 t_1119 t_1120 t_184 t_1121) rfl rfl rfl (by decide +kernel) ⟨(Nat.le_of_ble_eq_true rfl), (Nat.le_of_ble_eq_true rfl)⟩) (pre3V g hK mq0_ kq0_ (by decide) (q := (RX8, TX8, 10)) rfl) rfl rfl hl.1 rfl (lv_room (Nat.le_of_ble_eq_true rfl)) dX2_findNamed_138 ⟨(Nat.le_of_ble_eq_true rfl), (Nat.le_of_ble_eq_true rfl)⟩) g hK (by decide) (by decide) (fx' := [(2, 0, a0_, .ref q0_), (2, 1, a0_, .ref q1_), (2, 3, a0_, .ref q2_), (2, 4, a0_, .ref q3_), (5, 1, q1_, .ref q4_), (8, 6, q0_, .int y0_), (8, 8, q0_, .int y1_)]) rfl (fun r_20 fr_20 H locs hp hMr_20 g => ?_)
          obtain ⟨h_21, -⟩ := hp
          obtain rfl : r_20 = 0 := h_21
          refine lv_bipush (v := 91) hx hb dX2_findNamed_141 (by decide) ?_
          refine lv_icmp_ne (tgt := 150) hx hb dX2_findNamed_143 (by decide) (fun c_ => ?_) (fun c_ => absurd c_ (by decide))
          refine lv_iconst (v := 0) hx hb dX2_findNamed_150 (by decide) ?_
          refine lv_icmp_eq (tgt := 163) hx hb dX2_findNamed_151 (by decide) (fun c_ => ?_) (fun c_ => absurd (by decide) c_)
          refine lv_aload_n hx hb dX2_findNamed_163 rfl (lv_at hl 4 rfl) ?_
          refine lv_iload hx hb dX2_findNamed_164 (lv_at hl 0 rfl) ?_
          refine g_put (C := RX2) (T := TX2) (N := 16) hx hb hts (mc_ inX2) tyX2 tyX2_ok nmX2 hown hK g ma0_ ka0_ (by decide) rfl 15 (by decide) (hts _ (List.mem_cons_of_mem _ t_431)) (fun _ h9 => h9) rfl rfl (okV_i (bd_sub b_11 (by decide))) rfl rfl (by decide) (Or.inr (Or.inl (by decide))) (fx' := [(2, 0, a0_, .ref q0_), (2, 1, a0_, .ref q1_), (2, 3, a0_, .ref q2_), (2, 4, a0_, .ref q3_), (5, 1, q1_, .ref q4_), (8, 6, q0_, .int y0_), (8, 8, q0_, .int y1_)]) rfl dX2_findNamed_166 (fun f H locs hM_22 g => ?_)
          refine lv_iload hx hb dX2_findNamed_169 (lv_at hl 1 rfl) ?_
          subst hQ
          exact W.zret (v := r_4) hx hb hr (nar_z (bd_sub b_7 (by decide) : bd 0 1 _).1 (bd_sub b_7 (by decide) : bd 0 1 _).2) (fun t ht hW => ⟨⟨_, _, rfl, ⟨(bd_sub b_7 (by decide)), y0_, by0_, (g.fcts [6] rfl)⟩, q3_of g hK ht hW⟩, g.2.2.1.F ht⟩) g.2.2.1.2.2 dX2_findNamed_171
        · obtain rfl : r_13 = 1 := h_15
          have b_23 : bd 0 9 r_8 := eqX rfl b_11 h_16 (by decide)
          have g := g.more hF_19
          refine lv_aload_n hx hb dX2_findNamed_134 rfl (lv_at hl 4 rfl) ?_
          refine g_getk (C := RX2) (T := TX2) (N := 16) hx hb hts (mc_ inX2) hown hK g rfl 0 (by decide) rfl (hts _ (List.mem_cons_of_mem _ t_416)) (fun _ h9 => h9) 1 rfl dX2_findNamed_135 ?_
          refine g_calli (va_runV (As := []) (rest := [.int 1]) ⟨hx, hb, hml, hown, hts⟩ (r_X8_kind_2 l dC dI L kd tys fr_13 H.size g.2.2.2.1 q0_ mq0_ kq0_ y0_ by0_ (g.fcts [6] rfl)) (cwV 0 hts (gV_ t_1118 t_1119 t_1120 t_184 t_1121) rfl rfl rfl (by decide +kernel) ⟨(Nat.le_of_ble_eq_true rfl), (Nat.le_of_ble_eq_true rfl)⟩) (pre3V g hK mq0_ kq0_ (by decide) (q := (RX8, TX8, 10)) rfl) rfl rfl hl.1 rfl (lv_room (Nat.le_of_ble_eq_true rfl)) dX2_findNamed_138 ⟨(Nat.le_of_ble_eq_true rfl), (Nat.le_of_ble_eq_true rfl)⟩) g hK (by decide) (by decide) (fx' := [(9, 2, q3_, .int x_17), (2, 0, a0_, .ref q0_), (2, 1, a0_, .ref q1_), (2, 3, a0_, .ref q2_), (2, 4, a0_, .ref q3_), (5, 1, q1_, .ref q4_), (8, 6, q0_, .int y0_), (8, 8, q0_, .int y1_)]) rfl (fun r_24 fr_24 H locs hp hMr_24 g => ?_)
          obtain ⟨h_25, -⟩ := hp
          obtain rfl : r_24 = 0 := h_25
          refine lv_bipush (v := 91) hx hb dX2_findNamed_141 (by decide) ?_
          refine lv_icmp_ne (tgt := 150) hx hb dX2_findNamed_143 (by decide) (fun c_ => ?_) (fun c_ => absurd c_ (by decide))
          refine lv_iconst (v := 0) hx hb dX2_findNamed_150 (by decide) ?_
          refine lv_icmp_eq (tgt := 163) hx hb dX2_findNamed_151 (by decide) (fun c_ => absurd c_ (by decide)) (fun c_ => ?_)
          refine lv_aload_n hx hb dX2_findNamed_154 rfl (lv_at hl 4 rfl) ?_
          refine g_getk (C := RX2) (T := TX2) (N := 16) hx hb hts (mc_ inX2) hown hK g rfl 0 (by decide) rfl (hts _ (List.mem_cons_of_mem _ t_416)) (fun _ h9 => h9) 1 rfl dX2_findNamed_155 ?_
          refine lv_iconst (v := 5) hx hb dX2_findNamed_158 (by decide) ?_
          refine lv_iload_n hx hb dX2_findNamed_159 rfl (lv_at hl 3 rfl) ?_
          have kb_5 : bd 5 5 (5 : Int32) := ⟨by decide, by decide⟩
          refine g_callv (va_runV (As := [.int 5, .int r_1]) (rest := []) ⟨hx, hb, hml, hown, hts⟩ (r_X8_fail_2 l dC dI L kd tys fr_24 H.size g.2.2.2.1 q0_ mq0_ kq0_ 5 (bd_sub kb_5 (by decide)) r_1 y1_ by1_ (g.fcts [7] rfl)) (cwV 2 hts (gV_ t_1122 t_1107 t_1108 t_184 t_1109) rfl rfl rfl (by decide +kernel) ⟨(Nat.le_of_ble_eq_true rfl), (Nat.le_of_ble_eq_true rfl)⟩) (pre3V g hK mq0_ kq0_ (by decide) (q := (RX8, TX8, 10)) rfl) rfl rfl hl.1 rfl (lv_room (Nat.le_of_ble_eq_true rfl)) dX2_findNamed_160 ⟨(Nat.le_of_ble_eq_true rfl), (Nat.le_of_ble_eq_true rfl)⟩) g hK (by decide) (by decide) (fx' := [(9, 2, q3_, .int x_17), (2, 0, a0_, .ref q0_), (2, 1, a0_, .ref q1_), (2, 3, a0_, .ref q2_), (2, 4, a0_, .ref q3_), (5, 1, q1_, .ref q4_), (8, 8, q0_, .int y1_)]) rfl (fun fr_26 H locs hp hMr_26 g => ?_)
          have hF_27 := hp
          have g := g.more hF_27
          refine lv_aload_n hx hb dX2_findNamed_163 rfl (lv_at hl 4 rfl) ?_
          refine lv_iload hx hb dX2_findNamed_164 (lv_at hl 0 rfl) ?_
          refine g_put (C := RX2) (T := TX2) (N := 16) hx hb hts (mc_ inX2) tyX2 tyX2_ok nmX2 hown hK g ma0_ ka0_ (by decide) rfl 15 (by decide) (hts _ (List.mem_cons_of_mem _ t_431)) (fun _ h9 => h9) rfl rfl (okV_i (bd_sub b_23 (by decide))) rfl rfl (by decide) (Or.inr (Or.inl (by decide))) (fx' := [(8, 6, q0_, .int 1201), (9, 2, q3_, .int x_17), (2, 0, a0_, .ref q0_), (2, 1, a0_, .ref q1_), (2, 3, a0_, .ref q2_), (2, 4, a0_, .ref q3_), (5, 1, q1_, .ref q4_), (8, 8, q0_, .int y1_)]) rfl dX2_findNamed_166 (fun f H locs hM_28 g => ?_)
          refine lv_iload hx hb dX2_findNamed_169 (lv_at hl 1 rfl) ?_
          have kb_1201 : bd 1201 1201 (1201 : Int32) := ⟨by decide, by decide⟩
          subst hQ
          exact W.zret (v := r_4) hx hb hr (nar_z (bd_sub b_7 (by decide) : bd 0 1 _).1 (bd_sub b_7 (by decide) : bd 0 1 _).2) (fun t ht hW => ⟨⟨_, _, rfl, ⟨(bd_sub b_7 (by decide)), 1201, kb_1201, (g.fcts [1] rfl)⟩, q3_of g hK ht hW⟩, g.2.2.1.F ht⟩) g.2.2.1.2.2 dX2_findNamed_171
      · have fc_12 := neq_f c_12
        have b_29 : bd 1 (-1) r_4 := neX fc_12 b_7 kb_0 (by decide)
        exact bd_no b_29 (by decide)
    · have fc_10 := eq_f c_10
      have b_30 : bd (-1) (-1) r_8 := eqX fc_10 h_9 kb_m1 (by decide)
      refine lv_aload_n hx hb dX2_findNamed_68 rfl (lv_at hl 4 rfl) ?_
      refine g_getk (C := RX2) (T := TX2) (N := 16) hx hb hts (mc_ inX2) hown hK g rfl 0 (by decide) rfl (hts _ (List.mem_cons_of_mem _ t_416)) (fun _ h9 => h9) 0 rfl dX2_findNamed_69 ?_
      refine lv_iconst (v := 2) hx hb dX2_findNamed_72 (by decide) ?_
      refine lv_iload_n hx hb dX2_findNamed_73 rfl (lv_at hl 3 rfl) ?_
      have kb_2 : bd 2 2 (2 : Int32) := ⟨by decide, by decide⟩
      refine g_callv (va_runV (As := [.int 2, .int r_1]) (rest := []) ⟨hx, hb, hml, hown, hts⟩ (r_X8_fail_2 l dC dI L kd tys fr_8 H.size g.2.2.2.1 q0_ mq0_ kq0_ 2 (bd_sub kb_2 (by decide)) r_1 y1_ by1_ (g.fcts [6] rfl)) (cwV 2 hts (gV_ t_1122 t_1107 t_1108 t_184 t_1109) rfl rfl rfl (by decide +kernel) ⟨(Nat.le_of_ble_eq_true rfl), (Nat.le_of_ble_eq_true rfl)⟩) (pre3V g hK mq0_ kq0_ (by decide) (q := (RX8, TX8, 10)) rfl) rfl rfl hl.1 rfl (lv_room (Nat.le_of_ble_eq_true rfl)) dX2_findNamed_74 ⟨(Nat.le_of_ble_eq_true rfl), (Nat.le_of_ble_eq_true rfl)⟩) g hK (by decide) (by decide) (fx' := [(2, 0, a0_, .ref q0_), (2, 1, a0_, .ref q1_), (2, 3, a0_, .ref q2_), (2, 4, a0_, .ref q3_), (5, 1, q1_, .ref q4_), (8, 8, q0_, .int y1_)]) rfl (fun fr_31 H locs hp hMr_31 g => ?_)
      have hF_32 := hp
      have g := g.more hF_32
      refine lv_goto (tgt := 163) hx hb dX2_findNamed_77 (by decide) ?_
      refine lv_aload_n hx hb dX2_findNamed_163 rfl (lv_at hl 4 rfl) ?_
      refine lv_iload hx hb dX2_findNamed_164 (lv_at hl 0 rfl) ?_
      refine g_put (C := RX2) (T := TX2) (N := 16) hx hb hts (mc_ inX2) tyX2 tyX2_ok nmX2 hown hK g ma0_ ka0_ (by decide) rfl 15 (by decide) (hts _ (List.mem_cons_of_mem _ t_431)) (fun _ h9 => h9) rfl rfl (okV_i (bd_sub b_30 (by decide))) rfl rfl (by decide) (Or.inr (Or.inl (by decide))) (fx' := [(8, 6, q0_, .int 1201), (2, 0, a0_, .ref q0_), (2, 1, a0_, .ref q1_), (2, 3, a0_, .ref q2_), (2, 4, a0_, .ref q3_), (5, 1, q1_, .ref q4_), (8, 8, q0_, .int y1_)]) rfl dX2_findNamed_166 (fun f H locs hM_33 g => ?_)
      refine lv_iload hx hb dX2_findNamed_169 (lv_at hl 1 rfl) ?_
      have kb_1201 : bd 1201 1201 (1201 : Int32) := ⟨by decide, by decide⟩
      subst hQ
      exact W.zret (v := r_4) hx hb hr (nar_z (bd_sub b_7 (by decide) : bd 0 1 _).1 (bd_sub b_7 (by decide) : bd 0 1 _).2) (fun t ht hW => ⟨⟨_, _, rfl, ⟨(bd_sub b_7 (by decide)), 1201, kb_1201, (g.fcts [1] rfl)⟩, q3_of g hK ht hW⟩, g.2.2.1.F ht⟩) g.2.2.1.2.2 dX2_findNamed_171
  · have fc_6 := neq_f c_6
    have b_34 : bd 1 1 r_4 := neX fc_6 h_5 kb_0 (by decide)
    refine lv_aload_n hx hb dX2_findNamed_37 rfl (lv_at hl 3 rfl) ?_
    refine g_getk (C := RX2) (T := TX2) (N := 16) hx hb hts (mc_ inX2) hown hK g rfl 3 (by decide) rfl (hts _ (List.mem_cons_of_mem _ t_419)) (fun _ h9 => h9) 2 rfl dX2_findNamed_38 ?_
    refine lv_aload_n hx hb dX2_findNamed_41 rfl (lv_at hl 3 rfl) ?_
    refine g_getk (C := RX2) (T := TX2) (N := 16) hx hb hts (mc_ inX2) hown hK g rfl 4 (by decide) rfl (hts _ (List.mem_cons_of_mem _ t_420)) (fun _ h9 => h9) 3 rfl dX2_findNamed_42 ?_
    refine lv_lload_n hx hb dX2_findNamed_45 rfl (lv_at hl 1 rfl) ?_
    refine g_calli (va_runV (As := [.ref q3_, .long r_2]) (rest := []) ⟨hx, hb, hml, hown, hts⟩ (r_X7_memberNamed l dC dI L kd tys fr_4 H.size g.2.2.2.1 q2_ mq2_ kq2_ q3_ mq3_ kq3_ r_2) (cwV 2 hts (gV_ t_1306 t_1244 t_1245 t_191 t_1246) rfl rfl rfl (by decide +kernel) ⟨(Nat.le_of_ble_eq_true rfl), (Nat.le_of_ble_eq_true rfl)⟩) (pre3V g hK mq2_ kq2_ (by decide) (q := (RX7, TX7, 19)) rfl) rfl rfl hl.1 rfl (lv_room (Nat.le_of_ble_eq_true rfl)) dX2_findNamed_46 ⟨(Nat.le_of_ble_eq_true rfl), (Nat.le_of_ble_eq_true rfl)⟩) g hK (by decide) (by decide) (fx' := [(2, 0, a0_, .ref q0_), (2, 1, a0_, .ref q1_), (2, 3, a0_, .ref q2_), (2, 4, a0_, .ref q3_), (5, 1, q1_, .ref q4_), (8, 6, q0_, .int y0_), (8, 8, q0_, .int y1_)]) rfl (fun r_35 fr_35 H locs hp hMr_35 g => ?_)
    obtain ⟨h_36, -⟩ := hp
    refine lv_goto (tgt := 60) hx hb dX2_findNamed_49 (by decide) ?_
    refine lv_istore (lv' := [(5, .int r_35), (4, .int r_4), (2, .long r_2), (1, .int r_1), (0, .ref a0_)]) hx hb dX2_findNamed_60 hl (by decide) rfl (fun ls hl => ?_)
    refine lv_iload hx hb dX2_findNamed_62 (lv_at hl 0 rfl) ?_
    refine lv_iconst (v := (-1)) hx hb dX2_findNamed_64 (by decide) ?_
    have kb_m1 : bd (-1) (-1) ((-1) : Int32) := ⟨by decide, by decide⟩
    refine lv_icmp_ne (tgt := 80) hx hb dX2_findNamed_65 (by decide) (fun c_37 => ?_) (fun c_37 => ?_)
    · have fc_37 := neq_f c_37
      have b_38 : bd 0 11 r_35 := neX fc_37 h_36 kb_m1 (by decide)
      refine lv_iload hx hb dX2_findNamed_80 (lv_at hl 1 rfl) ?_
      refine lv_if_eq (tgt := 125) hx hb dX2_findNamed_82 (by decide) (fun c_39 => ?_) (fun c_39 => ?_)
      · have fc_39 := eq_f c_39
        exact absurd fc_39 fc_6
      · have fc_39 := neq_f c_39
        refine lv_aload_n hx hb dX2_findNamed_85 rfl (lv_at hl 4 rfl) ?_
        refine lv_bipush (v := 17) hx hb dX2_findNamed_86 (by decide) ?_
        have kb_17 : bd 17 17 (17 : Int32) := ⟨by decide, by decide⟩
        refine g_put (C := RX2) (T := TX2) (N := 16) hx hb hts (mc_ inX2) tyX2 tyX2_ok nmX2 hown hK g ma0_ ka0_ (by decide) rfl 12 (by decide) (hts _ (List.mem_cons_of_mem _ t_428)) (fun _ h9 => h9) rfl rfl (okV_i (bd_sub kb_17 (by decide))) rfl rfl (by decide) (Or.inr (Or.inl (by decide))) (fx' := [(2, 0, a0_, .ref q0_), (2, 1, a0_, .ref q1_), (2, 3, a0_, .ref q2_), (2, 4, a0_, .ref q3_), (5, 1, q1_, .ref q4_), (8, 6, q0_, .int y0_), (8, 8, q0_, .int y1_)]) rfl dX2_findNamed_88 (fun f H locs hM_40 g => ?_)
        refine lv_aload_n hx hb dX2_findNamed_91 rfl (lv_at hl 4 rfl) ?_
        refine lv_iload hx hb dX2_findNamed_92 (lv_at hl 0 rfl) ?_
        refine g_put (C := RX2) (T := TX2) (N := 16) hx hb hts (mc_ inX2) tyX2 tyX2_ok nmX2 hown hK g ma0_ ka0_ (by decide) rfl 13 (by decide) (hts _ (List.mem_cons_of_mem _ t_429)) (fun _ h9 => h9) rfl rfl (okV_i (bd_sub b_38 (by decide))) rfl rfl (by decide) (Or.inr (Or.inl (by decide))) (fx' := [(2, 12, a0_, .int 17), (2, 0, a0_, .ref q0_), (2, 1, a0_, .ref q1_), (2, 3, a0_, .ref q2_), (2, 4, a0_, .ref q3_), (5, 1, q1_, .ref q4_), (8, 6, q0_, .int y0_), (8, 8, q0_, .int y1_)]) rfl dX2_findNamed_94 (fun f H locs hM_41 g => ?_)
        refine lv_aload_n hx hb dX2_findNamed_97 rfl (lv_at hl 4 rfl) ?_
        refine lv_aload_n hx hb dX2_findNamed_98 rfl (lv_at hl 4 rfl) ?_
        refine g_getk (C := RX2) (T := TX2) (N := 16) hx hb hts (mc_ inX2) hown hK g rfl 3 (by decide) rfl (hts _ (List.mem_cons_of_mem _ t_419)) (fun _ h9 => h9) 4 rfl dX2_findNamed_99 ?_
        refine g_getr (K := 137) (C := RX7) (T := TX7) (N := 19) hx hb hts (mc_ inX7) hown hK g mq2_ kq2_ (by decide) rfl 2 (by decide) rfl (hts _ (List.mem_cons_of_mem _ t_630)) (fun _ h9 => h9) rfl dX2_findNamed_102 (fun a_42 ma_42 ka_42 g => ?_)
        refine lv_aload_n hx hb dX2_findNamed_105 rfl (lv_at hl 4 rfl) ?_
        refine g_getk (C := RX2) (T := TX2) (N := 16) hx hb hts (mc_ inX2) hown hK g rfl 4 (by decide) rfl (hts _ (List.mem_cons_of_mem _ t_420)) (fun _ h9 => h9) 6 rfl dX2_findNamed_106 ?_
        refine g_getr (K := 156) (C := RX9) (T := TX9) (N := 13) hx hb hts (mc_ inX9) hown hK g mq3_ kq3_ (by decide) rfl 9 (by decide) rfl (hts _ (List.mem_cons_of_mem _ t_510)) (fun _ h9 => h9) rfl dX2_findNamed_109 (fun a_43 ma_43 ka_43 g => ?_)
        refine lv_iload hx hb dX2_findNamed_112 (lv_at hl 0 rfl) ?_
        refine g_iald hx hb hK g ma_43 ka_43 (by decide) rfl (in_bd b_38 (by decide)) dX2_findNamed_114 (fun x_44 bx_44 cx_44 => ?_)
        refine g_aald hx hb hK g ma_42 ka_42 (by decide) rfl (by decide) (in_bd bx_44 (by decide)) dX2_findNamed_115 (fun a_45 ma_45 ua_45 wa_45 => ?_)
        have ka_45 : kd a_45 = 6 := by omega
        refine g_geti (C := RX6) (T := TX6) (N := 13) hx hb hts (mc_ inX6) hown hK g ma_45 ka_45 (by decide) rfl 3 (by decide) rfl (hts _ (List.mem_cons_of_mem _ t_568)) (fun _ h9 => h9) rfl dX2_findNamed_116 (fun x_46 bx_46 g => ?_)
        refine g_put (C := RX2) (T := TX2) (N := 16) hx hb hts (mc_ inX2) tyX2 tyX2_ok nmX2 hown hK g ma0_ ka0_ (by decide) rfl 14 (by decide) (hts _ (List.mem_cons_of_mem _ t_430)) (fun _ h9 => h9) rfl rfl (okV_i (bd_sub bx_46 (by decide))) rfl rfl (by decide) (Or.inr (Or.inl (by decide))) (fx' := [(6, 3, a_45, .int x_46), (9, 9, q3_, .ref a_43), (7, 2, q2_, .ref a_42), (2, 13, a0_, .int r_35), (2, 12, a0_, .int 17), (2, 0, a0_, .ref q0_), (2, 1, a0_, .ref q1_), (2, 3, a0_, .ref q2_), (2, 4, a0_, .ref q3_), (5, 1, q1_, .ref q4_), (8, 6, q0_, .int y0_), (8, 8, q0_, .int y1_)]) rfl dX2_findNamed_119 (fun f H locs hM_47 g => ?_)
        refine lv_goto (tgt := 163) hx hb dX2_findNamed_122 (by decide) ?_
        refine lv_aload_n hx hb dX2_findNamed_163 rfl (lv_at hl 4 rfl) ?_
        refine lv_iload hx hb dX2_findNamed_164 (lv_at hl 0 rfl) ?_
        refine g_put (C := RX2) (T := TX2) (N := 16) hx hb hts (mc_ inX2) tyX2 tyX2_ok nmX2 hown hK g ma0_ ka0_ (by decide) rfl 15 (by decide) (hts _ (List.mem_cons_of_mem _ t_431)) (fun _ h9 => h9) rfl rfl (okV_i (bd_sub b_38 (by decide))) rfl rfl (by decide) (Or.inr (Or.inl (by decide))) (fx' := [(2, 14, a0_, .int x_46), (6, 3, a_45, .int x_46), (9, 9, q3_, .ref a_43), (7, 2, q2_, .ref a_42), (2, 13, a0_, .int r_35), (2, 12, a0_, .int 17), (2, 0, a0_, .ref q0_), (2, 1, a0_, .ref q1_), (2, 3, a0_, .ref q2_), (2, 4, a0_, .ref q3_), (5, 1, q1_, .ref q4_), (8, 6, q0_, .int y0_), (8, 8, q0_, .int y1_)]) rfl dX2_findNamed_166 (fun f H locs hM_48 g => ?_)
        refine lv_iload hx hb dX2_findNamed_169 (lv_at hl 1 rfl) ?_
        subst hQ
        exact W.zret (v := r_4) hx hb hr (nar_z (bd_sub b_34 (by decide) : bd 0 1 _).1 (bd_sub b_34 (by decide) : bd 0 1 _).2) (fun t ht hW => ⟨⟨_, _, rfl, ⟨(bd_sub b_34 (by decide)), y0_, by0_, (g.fcts [12] rfl)⟩, q3_of g hK ht hW⟩, g.2.2.1.F ht⟩) g.2.2.1.2.2 dX2_findNamed_171
    · have fc_37 := eq_f c_37
      have b_49 : bd (-1) (-1) r_35 := eqX fc_37 h_36 kb_m1 (by decide)
      refine lv_aload_n hx hb dX2_findNamed_68 rfl (lv_at hl 4 rfl) ?_
      refine g_getk (C := RX2) (T := TX2) (N := 16) hx hb hts (mc_ inX2) hown hK g rfl 0 (by decide) rfl (hts _ (List.mem_cons_of_mem _ t_416)) (fun _ h9 => h9) 0 rfl dX2_findNamed_69 ?_
      refine lv_iconst (v := 2) hx hb dX2_findNamed_72 (by decide) ?_
      refine lv_iload_n hx hb dX2_findNamed_73 rfl (lv_at hl 3 rfl) ?_
      have kb_2 : bd 2 2 (2 : Int32) := ⟨by decide, by decide⟩
      refine g_callv (va_runV (As := [.int 2, .int r_1]) (rest := []) ⟨hx, hb, hml, hown, hts⟩ (r_X8_fail_2 l dC dI L kd tys fr_35 H.size g.2.2.2.1 q0_ mq0_ kq0_ 2 (bd_sub kb_2 (by decide)) r_1 y1_ by1_ (g.fcts [6] rfl)) (cwV 2 hts (gV_ t_1122 t_1107 t_1108 t_184 t_1109) rfl rfl rfl (by decide +kernel) ⟨(Nat.le_of_ble_eq_true rfl), (Nat.le_of_ble_eq_true rfl)⟩) (pre3V g hK mq0_ kq0_ (by decide) (q := (RX8, TX8, 10)) rfl) rfl rfl hl.1 rfl (lv_room (Nat.le_of_ble_eq_true rfl)) dX2_findNamed_74 ⟨(Nat.le_of_ble_eq_true rfl), (Nat.le_of_ble_eq_true rfl)⟩) g hK (by decide) (by decide) (fx' := [(2, 0, a0_, .ref q0_), (2, 1, a0_, .ref q1_), (2, 3, a0_, .ref q2_), (2, 4, a0_, .ref q3_), (5, 1, q1_, .ref q4_), (8, 8, q0_, .int y1_)]) rfl (fun fr_50 H locs hp hMr_50 g => ?_)
      have hF_51 := hp
      have g := g.more hF_51
      refine lv_goto (tgt := 163) hx hb dX2_findNamed_77 (by decide) ?_
      refine lv_aload_n hx hb dX2_findNamed_163 rfl (lv_at hl 4 rfl) ?_
      refine lv_iload hx hb dX2_findNamed_164 (lv_at hl 0 rfl) ?_
      refine g_put (C := RX2) (T := TX2) (N := 16) hx hb hts (mc_ inX2) tyX2 tyX2_ok nmX2 hown hK g ma0_ ka0_ (by decide) rfl 15 (by decide) (hts _ (List.mem_cons_of_mem _ t_431)) (fun _ h9 => h9) rfl rfl (okV_i (bd_sub b_49 (by decide))) rfl rfl (by decide) (Or.inr (Or.inl (by decide))) (fx' := [(8, 6, q0_, .int 1201), (2, 0, a0_, .ref q0_), (2, 1, a0_, .ref q1_), (2, 3, a0_, .ref q2_), (2, 4, a0_, .ref q3_), (5, 1, q1_, .ref q4_), (8, 8, q0_, .int y1_)]) rfl dX2_findNamed_166 (fun f H locs hM_52 g => ?_)
      refine lv_iload hx hb dX2_findNamed_169 (lv_at hl 1 rfl) ?_
      have kb_1201 : bd 1201 1201 (1201 : Int32) := ⟨by decide, by decide⟩
      subst hQ
      exact W.zret (v := r_4) hx hb hr (nar_z (bd_sub b_34 (by decide) : bd 0 1 _).1 (bd_sub b_34 (by decide) : bd 0 1 _).2) (fun t ht hW => ⟨⟨_, _, rfl, ⟨(bd_sub b_34 (by decide)), 1201, kb_1201, (g.fcts [1] rfl)⟩, q3_of g hK ht hW⟩, g.2.2.1.F ht⟩) g.2.2.1.2.2 dX2_findNamed_171
set_option maxHeartbeats 4000000 in
set_option maxRecDepth 100000 in
theorem r_X2_readAssignment (l : Launch) (dC : Nat → ClassId) (dI : Nat → Nat → Nat) (L : List Nat) (kd : Nat → Nat) (tys : List (ClassId × FieldType)) (f0 : Nat → va_E) (sz : Nat) (hWT : WT L kd tys f0) (a0_ : Nat) (ma0_ : a0_ ∈ L) (ka0_ : kd a0_ = 2) (q0_ : Nat) (mq0_ : q0_ ∈ L) (kq0_ : kd q0_ = 8) (q1_ : Nat) (mq1_ : q1_ ∈ L) (kq1_ : kd q1_ = 5) (q2_ : Nat) (mq2_ : q2_ ∈ L) (kq2_ : kd q2_ = 0) (q3_ : Nat) (mq3_ : q3_ ∈ L) (kq3_ : kd q3_ = 7) (q4_ : Nat) (mq4_ : q4_ ∈ L) (kq4_ : kd q4_ = 9) (q8_ : Nat) (mq8_ : q8_ ∈ L) (kq8_ : kd q8_ = 9) (y0_ : Int32) (by0_ : bd 1201 1201 y0_) (y1_ : Int32) (by1_ : bd 1 7 y1_) (T_ : Nat) (hGdq3_ : dOK L kd f0 q3_ T_) (hGeq2_ : eOK f0 q2_) (hfx : Fs L kd f0 [(2, 0, a0_, .ref q0_), (2, 1, a0_, .ref q1_), (2, 2, a0_, .ref q2_), (2, 3, a0_, .ref q3_), (2, 4, a0_, .ref q4_), (0, 0, q2_, .ref q0_), (0, 1, q2_, .ref q1_), (5, 0, q1_, .ref q3_), (5, 1, q1_, .ref q8_), (8, 6, q0_, .int y0_), (8, 8, q0_, .int y1_)]) : Met l yX2_readAssignment (.code yX2_readAssignment cX2_readAssignment 3 none :: lw_g) ({ frames := 2, cells := 0, slots := 0, locals := 44 }) (va_Pc [.ref a0_] (P3 (dC, dI) L tys f0 sz)) (va_Qv (fun (f : Nat → va_E) => (dOK L kd f q3_ T_ ∧ ∃ z0_ : Int32, bd 1201 1201 z0_ ∧ Fs L kd f [(8, 6, q0_, .int z0_), (0, 13, q2_, .int 0), (0, 12, q2_, .int 1), (0, 11, q2_, .int 0), (0, 10, q2_, .int 0), (0, 8, q2_, .int 0), (0, 2, q2_, .ref q3_)])) (Q3 (dC, dI) L kd tys [(0, 2), (0, 8), (0, 10), (0, 11), (0, 12), (0, 13), (7, 6), (8, 6)] [138, 139] f0 sz) (pA L sz)) 0 0 (pA L sz) := by
  refine Met.ofW (cc := cX2_readAssignment) (maxL := 3) (ret := none) (by decide) rfl ?_
  intro p e s m args below meth c s₁ B hml hv
  obtain ⟨rfl, hsz, hP, hK, hD0⟩ := hv
  have hx := B.exec
  have hb := B.bytes
  have hr := B.returns
  have hts := atoms_spec (ws := (.code yX2_readAssignment cX2_readAssignment 3 none :: lw_g)) B.pre
  have hown : s.vm.findClass RX2 = some m.cls := findClass_of_methodNamed B.named
  have hlocks := B.notSynchronized
  subst hsz
  have g : G3 (dC, dI) L kd tys s f0 [(0, 2), (0, 8), (0, 10), (0, 11), (0, 12), (0, 13), (7, 6), (8, 6)] [138, 139] f0 s.heap [] [(2, 0, a0_, .ref q0_), (2, 1, a0_, .ref q1_), (2, 2, a0_, .ref q2_), (2, 3, a0_, .ref q3_), (2, 4, a0_, .ref q4_), (0, 0, q2_, .ref q0_), (0, 1, q2_, .ref q1_), (5, 0, q1_, .ref q3_), (5, 1, q1_, .ref q8_), (8, 6, q0_, .int y0_), (8, 8, q0_, .int y1_)] := G3.start hP hD0 hWT hfx
  have hl := lv_entry ([.ref a0_]) (n := 3) (Nat.le_of_ble_eq_true rfl)
  rw [lg_entry_eq]
  generalize (lg_sl ([.ref a0_]) ++ List.replicate (3 - (lg_sl ([.ref a0_])).length) Slot.unset).toArray = ls at hl ⊢
  have hl : lv_has ls 3 [(0, .ref a0_)] := hl
  refine W_q (fun Q hQ => ?_)
  refine lv_aload_n hx hb dX2_readAssignment_0 rfl (lv_at hl 0 rfl) ?_
  refine g_geti (C := RX2) (T := TX2) (N := 16) hx hb hts (mc_ inX2) hown hK g ma0_ ka0_ (by decide) rfl 15 (by decide) rfl (hts _ (List.mem_cons_of_mem _ t_431)) (fun _ h9 => h9) rfl dX2_readAssignment_1 (fun x_1 bx_1 g => ?_)
  refine lv_istore_n (lv' := [(1, .int x_1), (0, .ref a0_)]) hx hb dX2_readAssignment_4 rfl hl (by decide) rfl (fun ls hl => ?_)
  refine lv_aload_n hx hb dX2_readAssignment_5 rfl (lv_at hl 1 rfl) ?_
  refine g_getk (C := RX2) (T := TX2) (N := 16) hx hb hts (mc_ inX2) hown hK g rfl 4 (by decide) rfl (hts _ (List.mem_cons_of_mem _ t_420)) (fun _ h9 => h9) 5 rfl dX2_readAssignment_6 ?_
  refine lv_iload_n hx hb dX2_readAssignment_9 rfl (lv_at hl 0 rfl) ?_
  have go_ := g
  refine g_calli (va_runV (As := [.int x_1]) (rest := []) ⟨hx, hb, hml, hown, hts⟩ (r_X9_isRow l dC dI L kd tys f0 s.heap.size g.2.2.2.1 q4_ mq4_ kq4_ x_1) (cwV 1 hts (gV_ t_1392 t_1257 t_1258 t_192 t_1259) rfl rfl rfl (by decide +kernel) ⟨(Nat.le_of_ble_eq_true rfl), (Nat.le_of_ble_eq_true rfl)⟩) (pre3V g hK mq4_ kq4_ (by decide) (q := (RX9, TX9, 13)) rfl) rfl rfl hl.1 rfl (lv_room (Nat.le_of_ble_eq_true rfl)) dX2_readAssignment_10 ⟨(Nat.le_of_ble_eq_true rfl), (Nat.le_of_ble_eq_true rfl)⟩) g hK (by decide) (by decide) (fx' := [(2, 15, a0_, .int x_1), (2, 0, a0_, .ref q0_), (2, 1, a0_, .ref q1_), (2, 2, a0_, .ref q2_), (2, 3, a0_, .ref q3_), (2, 4, a0_, .ref q4_), (0, 0, q2_, .ref q0_), (0, 1, q2_, .ref q1_), (5, 0, q1_, .ref q3_), (5, 1, q1_, .ref q8_), (8, 6, q0_, .int y0_), (8, 8, q0_, .int y1_)]) rfl (fun r_2 fr_2 H locs hp hMr_2 g => ?_)
  rcases hp with ⟨h_3, -⟩ | ⟨h_4, h_5, x_6, h_7, hF_8⟩
  · have hG_9 := dOK.frame hMr_2 go_.2.2.2.1 mq3_ kq3_ (by decide) (by decide) hGdq3_
    have hG_10 := eOK.frame hMr_2 go_.2.2.2.1 mq2_ kq2_ (by decide) (by decide) hGeq2_
    obtain rfl : r_2 = 0 := h_3
    refine lv_istore_n (lv' := [(2, .int 0), (1, .int x_1), (0, .ref a0_)]) hx hb dX2_readAssignment_13 rfl hl (by decide) rfl (fun ls hl => ?_)
    refine lv_iload_n hx hb dX2_readAssignment_14 rfl (lv_at hl 0 rfl) ?_
    refine lv_if_eq (tgt := 60) hx hb dX2_readAssignment_15 (by decide) (fun c_ => ?_) (fun c_ => absurd (by decide) c_)
    refine lv_aload_n hx hb dX2_readAssignment_60 rfl (lv_at hl 2 rfl) ?_
    refine g_getk (C := RX2) (T := TX2) (N := 16) hx hb hts (mc_ inX2) hown hK g rfl 0 (by decide) rfl (hts _ (List.mem_cons_of_mem _ t_416)) (fun _ h9 => h9) 1 rfl dX2_readAssignment_61 ?_
    refine lv_bipush (v := 61) hx hb dX2_readAssignment_64 (by decide) ?_
    have go_ := g
    refine g_callv (va_runV (As := [.int 61]) (rest := []) ⟨hx, hb, hml, hown, hts⟩ (r_X8_take_2 l dC dI L kd tys fr_2 H.size g.2.2.2.1 q0_ mq0_ kq0_ 61 y0_ by0_ y1_ by1_ (g.fcts [10, 11] rfl)) (cwV 1 hts (gV_ t_1098 t_1099 t_1100 t_184 t_1101) rfl rfl rfl (by decide +kernel) ⟨(Nat.le_of_ble_eq_true rfl), (Nat.le_of_ble_eq_true rfl)⟩) (pre3V g hK mq0_ kq0_ (by decide) (q := (RX8, TX8, 10)) rfl) rfl rfl hl.1 rfl (lv_room (Nat.le_of_ble_eq_true rfl)) dX2_readAssignment_66 ⟨(Nat.le_of_ble_eq_true rfl), (Nat.le_of_ble_eq_true rfl)⟩) g hK (by decide) (by decide) (fx' := [(2, 15, a0_, .int x_1), (2, 0, a0_, .ref q0_), (2, 1, a0_, .ref q1_), (2, 2, a0_, .ref q2_), (2, 3, a0_, .ref q3_), (2, 4, a0_, .ref q4_), (0, 0, q2_, .ref q0_), (0, 1, q2_, .ref q1_), (5, 0, q1_, .ref q3_), (5, 1, q1_, .ref q8_), (8, 8, q0_, .int y1_)]) rfl (fun fr_11 H locs hp hMr_11 g => ?_)
    obtain ⟨x_12, h_13, hF_14⟩ := hp
    have hG_15 := dOK.frame hMr_11 go_.2.2.2.1 mq3_ kq3_ (by decide) (by decide) hG_9
    have hG_16 := eOK.frame hMr_11 go_.2.2.2.1 mq2_ kq2_ (by decide) (by decide) hG_10
    have g := g.more hF_14
    refine lv_aload_n hx hb dX2_readAssignment_69 rfl (lv_at hl 2 rfl) ?_
    refine g_getk (C := RX2) (T := TX2) (N := 16) hx hb hts (mc_ inX2) hown hK g rfl 2 (by decide) rfl (hts _ (List.mem_cons_of_mem _ t_418)) (fun _ h9 => h9) 4 rfl dX2_readAssignment_70 ?_
    have go_ := g
    refine g_callv (va_runV (As := []) (rest := []) ⟨hx, hb, hml, hown, hts⟩ (r_X0_read_2 l dC dI L kd tys fr_11 H.size g.2.2.2.1 q2_ mq2_ kq2_ q0_ mq0_ kq0_ q1_ mq1_ kq1_ q3_ mq3_ kq3_ q8_ mq8_ kq8_ x_12 h_13 y1_ by1_ T_ hG_16 hG_15 (g.fcts [7, 8, 9, 10, 0, 11] rfl)) (cwV 0 hts (gV_ t_1182 t_1183 t_1184 t_190 t_1185) rfl rfl rfl (by decide +kernel) ⟨(Nat.le_of_ble_eq_true rfl), (Nat.le_of_ble_eq_true rfl)⟩) (pre3V g hK mq2_ kq2_ (by decide) (q := (RX0, TX0, 14)) rfl) rfl rfl hl.1 rfl (lv_room (Nat.le_of_ble_eq_true rfl)) dX2_readAssignment_73 ⟨(Nat.le_of_ble_eq_true rfl), (Nat.le_of_ble_eq_true rfl)⟩) g hK (by decide) (by decide) (fx' := [(8, 6, q0_, .int x_12), (2, 15, a0_, .int x_1), (2, 0, a0_, .ref q0_), (2, 1, a0_, .ref q1_), (2, 2, a0_, .ref q2_), (2, 3, a0_, .ref q3_), (2, 4, a0_, .ref q4_), (0, 0, q2_, .ref q0_), (0, 1, q2_, .ref q1_), (5, 0, q1_, .ref q3_), (5, 1, q1_, .ref q8_), (8, 8, q0_, .int y1_)]) rfl (fun fr_17 H locs hp hMr_17 g => ?_)
    have hF_18 := hp
    have hG_19 := dOK.frame hMr_17 go_.2.2.2.1 mq3_ kq3_ (by decide) (by decide) hG_15
    have hG_20 := eOK.frame hMr_17 go_.2.2.2.1 mq2_ kq2_ (by decide) (by decide) hG_16
    have g := g.more hF_18
    refine lv_iload_n hx hb dX2_readAssignment_76 rfl (lv_at hl 1 rfl) ?_
    refine lv_bipush (v := 16) hx hb dX2_readAssignment_77 (by decide) ?_
    have kb_16 : bd 16 16 (16 : Int32) := ⟨by decide, by decide⟩
    refine lv_icmp_lt (tgt := 98) hx hb dX2_readAssignment_79 (by decide) (fun c_21 => ?_) (fun c_21 => ?_)
    · have fc_21 := lt_f c_21
      have b_22 : bd (-1) 15 x_1 := ltL fc_21 bx_1 kb_16 (by decide)
      refine lv_aload_n hx hb dX2_readAssignment_98 rfl (lv_at hl 2 rfl) ?_
      refine g_getk (C := RX2) (T := TX2) (N := 16) hx hb hts (mc_ inX2) hown hK g rfl 3 (by decide) rfl (hts _ (List.mem_cons_of_mem _ t_419)) (fun _ h9 => h9) 11 rfl dX2_readAssignment_99 ?_
      refine lv_iload_n hx hb dX2_readAssignment_102 rfl (lv_at hl 0 rfl) ?_
      refine lv_if_eq (tgt := 111) hx hb dX2_readAssignment_103 (by decide) (fun c_ => ?_) (fun c_ => absurd (by decide) c_)
      refine lv_bipush (v := 21) hx hb dX2_readAssignment_111 (by decide) ?_
      refine lv_aload_n hx hb dX2_readAssignment_113 rfl (lv_at hl 2 rfl) ?_
      refine g_getk (C := RX2) (T := TX2) (N := 16) hx hb hts (mc_ inX2) hown hK g rfl 4 (by decide) rfl (hts _ (List.mem_cons_of_mem _ t_420)) (fun _ h9 => h9) 12 rfl dX2_readAssignment_114 ?_
      refine lv_iload_n hx hb dX2_readAssignment_117 rfl (lv_at hl 1 rfl) ?_
      have go_ := g
      refine g_calli (va_runV (As := [.int x_1]) (rest := [.int 21, .ref q3_]) ⟨hx, hb, hml, hown, hts⟩ (r_X9_spanOf l dC dI L kd tys fr_17 H.size g.2.2.2.1 q4_ mq4_ kq4_ x_1) (cwV 1 hts (gV_ t_1401 t_1265 t_1266 t_192 t_1267) rfl rfl rfl (by decide +kernel) ⟨(Nat.le_of_ble_eq_true rfl), (Nat.le_of_ble_eq_true rfl)⟩) (pre3V g hK mq4_ kq4_ (by decide) (q := (RX9, TX9, 13)) rfl) rfl rfl hl.1 rfl (lv_room (Nat.le_of_ble_eq_true rfl)) dX2_readAssignment_118 ⟨(Nat.le_of_ble_eq_true rfl), (Nat.le_of_ble_eq_true rfl)⟩) g hK (by decide) (by decide) (fx' := [(0, 13, q2_, .int 0), (0, 12, q2_, .int 1), (0, 11, q2_, .int 0), (0, 10, q2_, .int 0), (0, 8, q2_, .int 0), (0, 2, q2_, .ref q3_), (8, 6, q0_, .int x_12), (2, 15, a0_, .int x_1), (2, 0, a0_, .ref q0_), (2, 1, a0_, .ref q1_), (2, 2, a0_, .ref q2_), (2, 3, a0_, .ref q3_), (2, 4, a0_, .ref q4_), (0, 0, q2_, .ref q0_), (0, 1, q2_, .ref q1_), (5, 0, q1_, .ref q3_), (5, 1, q1_, .ref q8_), (8, 8, q0_, .int y1_)]) rfl (fun r_23 fr_23 H locs hp hMr_23 g => ?_)
      obtain ⟨h_24, -⟩ := hp
      have hG_25 := dOK.frame hMr_23 go_.2.2.2.1 mq3_ kq3_ (by decide) (by decide) hG_19
      have hG_26 := eOK.frame hMr_23 go_.2.2.2.1 mq2_ kq2_ (by decide) (by decide) hG_20
      obtain ⟨a_27, ma_27, ka_27, g⟩ := g_factr g mq3_ kq3_ (by decide) 4 rfl
      obtain ⟨a_28, ma_28, ka_28, g⟩ := g_factr g mq3_ kq3_ (by decide) 5 rfl
      obtain ⟨x_29, bx_29, g⟩ := g_facti g mq3_ kq3_ (by decide) 6 rfl
      have go_ := g
      refine g_callv (va_runV (As := [.int 21, .int r_23]) (rest := []) ⟨hx, hb, hml, hown, hts⟩ (r_X7_emitF l dC dI L kd tys fr_23 H.size g.2.2.2.1 q3_ mq3_ kq3_ a_27 ma_27 ka_27 a_28 ma_28 ka_28 x_29 bx_29 T_ hG_25 (21 : Int32) r_23 (g.fcts [2, 1, 0] rfl)) (cwV 2 hts (gV_ t_1301 t_1204 t_1205 t_191 t_1206) rfl rfl rfl (by decide +kernel) ⟨(Nat.le_of_ble_eq_true rfl), (Nat.le_of_ble_eq_true rfl)⟩) (pre3V g hK mq3_ kq3_ (by decide) (q := (RX7, TX7, 19)) rfl) rfl rfl hl.1 rfl (lv_room (Nat.le_of_ble_eq_true rfl)) dX2_readAssignment_121 ⟨(Nat.le_of_ble_eq_true rfl), (Nat.le_of_ble_eq_true rfl)⟩) g hK (by decide) (by decide) (fx' := [(7, 5, q3_, .ref a_28), (7, 4, q3_, .ref a_27), (0, 13, q2_, .int 0), (0, 12, q2_, .int 1), (0, 11, q2_, .int 0), (0, 10, q2_, .int 0), (0, 8, q2_, .int 0), (0, 2, q2_, .ref q3_), (8, 6, q0_, .int x_12), (2, 15, a0_, .int x_1), (2, 0, a0_, .ref q0_), (2, 1, a0_, .ref q1_), (2, 2, a0_, .ref q2_), (2, 3, a0_, .ref q3_), (2, 4, a0_, .ref q4_), (0, 0, q2_, .ref q0_), (0, 1, q2_, .ref q1_), (5, 0, q1_, .ref q3_), (5, 1, q1_, .ref q8_), (8, 8, q0_, .int y1_)]) rfl (fun fr_30 H locs hp hMr_30 g => ?_)
      obtain ⟨hG_31, x_32, h_33, hF_34⟩ := hp
      have hG_35 := eOK.frame hMr_30 go_.2.2.2.1 mq2_ kq2_ (by decide) (by decide) hG_26
      have g := g.more hF_34
      refine lv_aload_n hx hb dX2_readAssignment_124 rfl (lv_at hl 2 rfl) ?_
      refine g_getk (C := RX2) (T := TX2) (N := 16) hx hb hts (mc_ inX2) hown hK g rfl 0 (by decide) rfl (hts _ (List.mem_cons_of_mem _ t_416)) (fun _ h9 => h9) 11 rfl dX2_readAssignment_125 ?_
      refine lv_bipush (v := 59) hx hb dX2_readAssignment_128 (by decide) ?_
      have go_ := g
      refine g_callv (va_runV (As := [.int 59]) (rest := []) ⟨hx, hb, hml, hown, hts⟩ (r_X8_take_2 l dC dI L kd tys fr_30 H.size g.2.2.2.1 q0_ mq0_ kq0_ 59 x_12 h_13 y1_ by1_ (g.fcts [9, 20] rfl)) (cwV 1 hts (gV_ t_1098 t_1099 t_1100 t_184 t_1101) rfl rfl rfl (by decide +kernel) ⟨(Nat.le_of_ble_eq_true rfl), (Nat.le_of_ble_eq_true rfl)⟩) (pre3V g hK mq0_ kq0_ (by decide) (q := (RX8, TX8, 10)) rfl) rfl rfl hl.1 rfl (lv_room (Nat.le_of_ble_eq_true rfl)) dX2_readAssignment_130 ⟨(Nat.le_of_ble_eq_true rfl), (Nat.le_of_ble_eq_true rfl)⟩) g hK (by decide) (by decide) (fx' := [(7, 6, q3_, .int x_32), (7, 5, q3_, .ref a_28), (7, 4, q3_, .ref a_27), (0, 13, q2_, .int 0), (0, 12, q2_, .int 1), (0, 11, q2_, .int 0), (0, 10, q2_, .int 0), (0, 8, q2_, .int 0), (0, 2, q2_, .ref q3_), (2, 15, a0_, .int x_1), (2, 0, a0_, .ref q0_), (2, 1, a0_, .ref q1_), (2, 2, a0_, .ref q2_), (2, 3, a0_, .ref q3_), (2, 4, a0_, .ref q4_), (0, 0, q2_, .ref q0_), (0, 1, q2_, .ref q1_), (5, 0, q1_, .ref q3_), (5, 1, q1_, .ref q8_), (8, 8, q0_, .int y1_)]) rfl (fun fr_36 H locs hp hMr_36 g => ?_)
      obtain ⟨x_37, h_38, hF_39⟩ := hp
      have hG_40 := dOK.frame hMr_36 go_.2.2.2.1 mq3_ kq3_ (by decide) (by decide) hG_31
      have hG_41 := eOK.frame hMr_36 go_.2.2.2.1 mq2_ kq2_ (by decide) (by decide) hG_35
      have g := g.more hF_39
      subst hQ
      exact W.vret hx hb hr (fun t ht hW => ⟨⟨_, rfl, ⟨hG_40, x_37, h_38, (g.fcts [0, 4, 5, 6, 7, 8, 9] rfl)⟩, q3_of g hK ht hW⟩, g.2.2.1.F ht⟩) g.2.2.1.2.2 dX2_readAssignment_133
    · have fc_21 := nlt_f c_21
      have b_42 : bd 16 26 x_1 := leR fc_21 kb_16 bx_1 (by decide)
      refine lv_aload_n hx hb dX2_readAssignment_82 rfl (lv_at hl 2 rfl) ?_
      refine g_getk (C := RX2) (T := TX2) (N := 16) hx hb hts (mc_ inX2) hown hK g rfl 3 (by decide) rfl (hts _ (List.mem_cons_of_mem _ t_419)) (fun _ h9 => h9) 11 rfl dX2_readAssignment_83 ?_
      refine lv_bipush (v := 20) hx hb dX2_readAssignment_86 (by decide) ?_
      refine lv_iload_n hx hb dX2_readAssignment_88 rfl (lv_at hl 1 rfl) ?_
      refine lv_bipush (v := 16) hx hb dX2_readAssignment_89 (by decide) ?_
      refine lv_isub hx hb dX2_readAssignment_91 ?_
      refine lv_topi (fun y_43 ey_43 => ?_)
      have ty_43 := sub_bd ey_43 b_42 kb_16 (by decide)
      have b_44 : bd 0 10 y_43 := sub_rg ty_43 b_42 kb_16 (by decide)
      obtain ⟨a_45, ma_45, ka_45, g⟩ := g_factr g mq3_ kq3_ (by decide) 4 rfl
      obtain ⟨a_46, ma_46, ka_46, g⟩ := g_factr g mq3_ kq3_ (by decide) 5 rfl
      obtain ⟨x_47, bx_47, g⟩ := g_facti g mq3_ kq3_ (by decide) 6 rfl
      have go_ := g
      refine g_callv (va_runV (As := [.int 20, .int y_43]) (rest := []) ⟨hx, hb, hml, hown, hts⟩ (r_X7_emitF l dC dI L kd tys fr_17 H.size g.2.2.2.1 q3_ mq3_ kq3_ a_45 ma_45 ka_45 a_46 ma_46 ka_46 x_47 bx_47 T_ hG_19 (20 : Int32) y_43 (g.fcts [2, 1, 0] rfl)) (cwV 2 hts (gV_ t_1301 t_1204 t_1205 t_191 t_1206) rfl rfl rfl (by decide +kernel) ⟨(Nat.le_of_ble_eq_true rfl), (Nat.le_of_ble_eq_true rfl)⟩) (pre3V g hK mq3_ kq3_ (by decide) (q := (RX7, TX7, 19)) rfl) rfl rfl hl.1 rfl (lv_room (Nat.le_of_ble_eq_true rfl)) dX2_readAssignment_92 ⟨(Nat.le_of_ble_eq_true rfl), (Nat.le_of_ble_eq_true rfl)⟩) g hK (by decide) (by decide) (fx' := [(7, 5, q3_, .ref a_46), (7, 4, q3_, .ref a_45), (0, 13, q2_, .int 0), (0, 12, q2_, .int 1), (0, 11, q2_, .int 0), (0, 10, q2_, .int 0), (0, 8, q2_, .int 0), (0, 2, q2_, .ref q3_), (8, 6, q0_, .int x_12), (2, 15, a0_, .int x_1), (2, 0, a0_, .ref q0_), (2, 1, a0_, .ref q1_), (2, 2, a0_, .ref q2_), (2, 3, a0_, .ref q3_), (2, 4, a0_, .ref q4_), (0, 0, q2_, .ref q0_), (0, 1, q2_, .ref q1_), (5, 0, q1_, .ref q3_), (5, 1, q1_, .ref q8_), (8, 8, q0_, .int y1_)]) rfl (fun fr_48 H locs hp hMr_48 g => ?_)
      obtain ⟨hG_49, x_50, h_51, hF_52⟩ := hp
      have hG_53 := eOK.frame hMr_48 go_.2.2.2.1 mq2_ kq2_ (by decide) (by decide) hG_20
      have g := g.more hF_52
      refine lv_goto (tgt := 124) hx hb dX2_readAssignment_95 (by decide) ?_
      refine lv_aload_n hx hb dX2_readAssignment_124 rfl (lv_at hl 2 rfl) ?_
      refine g_getk (C := RX2) (T := TX2) (N := 16) hx hb hts (mc_ inX2) hown hK g rfl 0 (by decide) rfl (hts _ (List.mem_cons_of_mem _ t_416)) (fun _ h9 => h9) 11 rfl dX2_readAssignment_125 ?_
      refine lv_bipush (v := 59) hx hb dX2_readAssignment_128 (by decide) ?_
      have go_ := g
      refine g_callv (va_runV (As := [.int 59]) (rest := []) ⟨hx, hb, hml, hown, hts⟩ (r_X8_take_2 l dC dI L kd tys fr_48 H.size g.2.2.2.1 q0_ mq0_ kq0_ 59 x_12 h_13 y1_ by1_ (g.fcts [9, 20] rfl)) (cwV 1 hts (gV_ t_1098 t_1099 t_1100 t_184 t_1101) rfl rfl rfl (by decide +kernel) ⟨(Nat.le_of_ble_eq_true rfl), (Nat.le_of_ble_eq_true rfl)⟩) (pre3V g hK mq0_ kq0_ (by decide) (q := (RX8, TX8, 10)) rfl) rfl rfl hl.1 rfl (lv_room (Nat.le_of_ble_eq_true rfl)) dX2_readAssignment_130 ⟨(Nat.le_of_ble_eq_true rfl), (Nat.le_of_ble_eq_true rfl)⟩) g hK (by decide) (by decide) (fx' := [(7, 6, q3_, .int x_50), (7, 5, q3_, .ref a_46), (7, 4, q3_, .ref a_45), (0, 13, q2_, .int 0), (0, 12, q2_, .int 1), (0, 11, q2_, .int 0), (0, 10, q2_, .int 0), (0, 8, q2_, .int 0), (0, 2, q2_, .ref q3_), (2, 15, a0_, .int x_1), (2, 0, a0_, .ref q0_), (2, 1, a0_, .ref q1_), (2, 2, a0_, .ref q2_), (2, 3, a0_, .ref q3_), (2, 4, a0_, .ref q4_), (0, 0, q2_, .ref q0_), (0, 1, q2_, .ref q1_), (5, 0, q1_, .ref q3_), (5, 1, q1_, .ref q8_), (8, 8, q0_, .int y1_)]) rfl (fun fr_54 H locs hp hMr_54 g => ?_)
      obtain ⟨x_55, h_56, hF_57⟩ := hp
      have hG_58 := dOK.frame hMr_54 go_.2.2.2.1 mq3_ kq3_ (by decide) (by decide) hG_49
      have hG_59 := eOK.frame hMr_54 go_.2.2.2.1 mq2_ kq2_ (by decide) (by decide) hG_53
      have g := g.more hF_57
      subst hQ
      exact W.vret hx hb hr (fun t ht hW => ⟨⟨_, rfl, ⟨hG_58, x_55, h_56, (g.fcts [0, 4, 5, 6, 7, 8, 9] rfl)⟩, q3_of g hK ht hW⟩, g.2.2.1.F ht⟩) g.2.2.1.2.2 dX2_readAssignment_133
  · have hG_60 := dOK.frame hMr_2 go_.2.2.2.1 mq3_ kq3_ (by decide) (by decide) hGdq3_
    have hG_61 := eOK.frame hMr_2 go_.2.2.2.1 mq2_ kq2_ (by decide) (by decide) hGeq2_
    obtain rfl : r_2 = 1 := h_4
    have b_62 : bd 0 9 x_1 := eqX rfl bx_1 h_5 (by decide)
    have g := g.more hF_8
    refine lv_istore_n (lv' := [(2, .int 1), (1, .int x_1), (0, .ref a0_)]) hx hb dX2_readAssignment_13 rfl hl (by decide) rfl (fun ls hl => ?_)
    refine lv_iload_n hx hb dX2_readAssignment_14 rfl (lv_at hl 0 rfl) ?_
    refine lv_if_eq (tgt := 60) hx hb dX2_readAssignment_15 (by decide) (fun c_ => absurd c_ (by decide)) (fun c_ => ?_)
    refine lv_aload_n hx hb dX2_readAssignment_18 rfl (lv_at hl 2 rfl) ?_
    refine g_getk (C := RX2) (T := TX2) (N := 16) hx hb hts (mc_ inX2) hown hK g rfl 0 (by decide) rfl (hts _ (List.mem_cons_of_mem _ t_416)) (fun _ h9 => h9) 2 rfl dX2_readAssignment_19 ?_
    refine lv_bipush (v := 91) hx hb dX2_readAssignment_22 (by decide) ?_
    have go_ := g
    refine g_callv (va_runV (As := [.int 91]) (rest := []) ⟨hx, hb, hml, hown, hts⟩ (r_X8_take_2 l dC dI L kd tys fr_2 H.size g.2.2.2.1 q0_ mq0_ kq0_ 91 y0_ by0_ y1_ by1_ (g.fcts [11, 12] rfl)) (cwV 1 hts (gV_ t_1098 t_1099 t_1100 t_184 t_1101) rfl rfl rfl (by decide +kernel) ⟨(Nat.le_of_ble_eq_true rfl), (Nat.le_of_ble_eq_true rfl)⟩) (pre3V g hK mq0_ kq0_ (by decide) (q := (RX8, TX8, 10)) rfl) rfl rfl hl.1 rfl (lv_room (Nat.le_of_ble_eq_true rfl)) dX2_readAssignment_24 ⟨(Nat.le_of_ble_eq_true rfl), (Nat.le_of_ble_eq_true rfl)⟩) g hK (by decide) (by decide) (fx' := [(9, 2, q4_, .int x_6), (2, 15, a0_, .int x_1), (2, 0, a0_, .ref q0_), (2, 1, a0_, .ref q1_), (2, 2, a0_, .ref q2_), (2, 3, a0_, .ref q3_), (2, 4, a0_, .ref q4_), (0, 0, q2_, .ref q0_), (0, 1, q2_, .ref q1_), (5, 0, q1_, .ref q3_), (5, 1, q1_, .ref q8_), (8, 8, q0_, .int y1_)]) rfl (fun fr_63 H locs hp hMr_63 g => ?_)
    obtain ⟨x_64, h_65, hF_66⟩ := hp
    have hG_67 := dOK.frame hMr_63 go_.2.2.2.1 mq3_ kq3_ (by decide) (by decide) hG_60
    have hG_68 := eOK.frame hMr_63 go_.2.2.2.1 mq2_ kq2_ (by decide) (by decide) hG_61
    have g := g.more hF_66
    refine lv_aload_n hx hb dX2_readAssignment_27 rfl (lv_at hl 2 rfl) ?_
    refine g_getk (C := RX2) (T := TX2) (N := 16) hx hb hts (mc_ inX2) hown hK g rfl 2 (by decide) rfl (hts _ (List.mem_cons_of_mem _ t_418)) (fun _ h9 => h9) 5 rfl dX2_readAssignment_28 ?_
    have go_ := g
    refine g_callv (va_runV (As := []) (rest := []) ⟨hx, hb, hml, hown, hts⟩ (r_X0_read_2 l dC dI L kd tys fr_63 H.size g.2.2.2.1 q2_ mq2_ kq2_ q0_ mq0_ kq0_ q1_ mq1_ kq1_ q3_ mq3_ kq3_ q8_ mq8_ kq8_ x_64 h_65 y1_ by1_ T_ hG_68 hG_67 (g.fcts [8, 9, 10, 11, 0, 12] rfl)) (cwV 0 hts (gV_ t_1182 t_1183 t_1184 t_190 t_1185) rfl rfl rfl (by decide +kernel) ⟨(Nat.le_of_ble_eq_true rfl), (Nat.le_of_ble_eq_true rfl)⟩) (pre3V g hK mq2_ kq2_ (by decide) (q := (RX0, TX0, 14)) rfl) rfl rfl hl.1 rfl (lv_room (Nat.le_of_ble_eq_true rfl)) dX2_readAssignment_31 ⟨(Nat.le_of_ble_eq_true rfl), (Nat.le_of_ble_eq_true rfl)⟩) g hK (by decide) (by decide) (fx' := [(8, 6, q0_, .int x_64), (9, 2, q4_, .int x_6), (2, 15, a0_, .int x_1), (2, 0, a0_, .ref q0_), (2, 1, a0_, .ref q1_), (2, 2, a0_, .ref q2_), (2, 3, a0_, .ref q3_), (2, 4, a0_, .ref q4_), (0, 0, q2_, .ref q0_), (0, 1, q2_, .ref q1_), (5, 0, q1_, .ref q3_), (5, 1, q1_, .ref q8_), (8, 8, q0_, .int y1_)]) rfl (fun fr_69 H locs hp hMr_69 g => ?_)
    have hF_70 := hp
    have hG_71 := dOK.frame hMr_69 go_.2.2.2.1 mq3_ kq3_ (by decide) (by decide) hG_67
    have hG_72 := eOK.frame hMr_69 go_.2.2.2.1 mq2_ kq2_ (by decide) (by decide) hG_68
    have g := g.more hF_70
    refine lv_aload_n hx hb dX2_readAssignment_34 rfl (lv_at hl 2 rfl) ?_
    refine g_getk (C := RX2) (T := TX2) (N := 16) hx hb hts (mc_ inX2) hown hK g rfl 0 (by decide) rfl (hts _ (List.mem_cons_of_mem _ t_416)) (fun _ h9 => h9) 9 rfl dX2_readAssignment_35 ?_
    refine lv_bipush (v := 93) hx hb dX2_readAssignment_38 (by decide) ?_
    have go_ := g
    refine g_callv (va_runV (As := [.int 93]) (rest := []) ⟨hx, hb, hml, hown, hts⟩ (r_X8_take_2 l dC dI L kd tys fr_69 H.size g.2.2.2.1 q0_ mq0_ kq0_ 93 x_64 h_65 y1_ by1_ (g.fcts [6, 18] rfl)) (cwV 1 hts (gV_ t_1098 t_1099 t_1100 t_184 t_1101) rfl rfl rfl (by decide +kernel) ⟨(Nat.le_of_ble_eq_true rfl), (Nat.le_of_ble_eq_true rfl)⟩) (pre3V g hK mq0_ kq0_ (by decide) (q := (RX8, TX8, 10)) rfl) rfl rfl hl.1 rfl (lv_room (Nat.le_of_ble_eq_true rfl)) dX2_readAssignment_40 ⟨(Nat.le_of_ble_eq_true rfl), (Nat.le_of_ble_eq_true rfl)⟩) g hK (by decide) (by decide) (fx' := [(0, 13, q2_, .int 0), (0, 12, q2_, .int 1), (0, 11, q2_, .int 0), (0, 10, q2_, .int 0), (0, 8, q2_, .int 0), (0, 2, q2_, .ref q3_), (9, 2, q4_, .int x_6), (2, 15, a0_, .int x_1), (2, 0, a0_, .ref q0_), (2, 1, a0_, .ref q1_), (2, 2, a0_, .ref q2_), (2, 3, a0_, .ref q3_), (2, 4, a0_, .ref q4_), (0, 0, q2_, .ref q0_), (0, 1, q2_, .ref q1_), (5, 0, q1_, .ref q3_), (5, 1, q1_, .ref q8_), (8, 8, q0_, .int y1_)]) rfl (fun fr_73 H locs hp hMr_73 g => ?_)
    obtain ⟨x_74, h_75, hF_76⟩ := hp
    have hG_77 := dOK.frame hMr_73 go_.2.2.2.1 mq3_ kq3_ (by decide) (by decide) hG_71
    have hG_78 := eOK.frame hMr_73 go_.2.2.2.1 mq2_ kq2_ (by decide) (by decide) hG_72
    have g := g.more hF_76
    refine lv_aload_n hx hb dX2_readAssignment_43 rfl (lv_at hl 2 rfl) ?_
    refine g_getk (C := RX2) (T := TX2) (N := 16) hx hb hts (mc_ inX2) hown hK g rfl 3 (by decide) rfl (hts _ (List.mem_cons_of_mem _ t_419)) (fun _ h9 => h9) 12 rfl dX2_readAssignment_44 ?_
    refine lv_bipush (v := 11) hx hb dX2_readAssignment_47 (by decide) ?_
    refine lv_aload_n hx hb dX2_readAssignment_49 rfl (lv_at hl 2 rfl) ?_
    refine g_getk (C := RX2) (T := TX2) (N := 16) hx hb hts (mc_ inX2) hown hK g rfl 4 (by decide) rfl (hts _ (List.mem_cons_of_mem _ t_420)) (fun _ h9 => h9) 13 rfl dX2_readAssignment_50 ?_
    refine lv_iload_n hx hb dX2_readAssignment_53 rfl (lv_at hl 1 rfl) ?_
    have go_ := g
    refine g_calli (va_runV (As := [.int x_1]) (rest := [.int 11, .ref q3_]) ⟨hx, hb, hml, hown, hts⟩ (r_X9_spanOf l dC dI L kd tys fr_73 H.size g.2.2.2.1 q4_ mq4_ kq4_ x_1) (cwV 1 hts (gV_ t_1401 t_1265 t_1266 t_192 t_1267) rfl rfl rfl (by decide +kernel) ⟨(Nat.le_of_ble_eq_true rfl), (Nat.le_of_ble_eq_true rfl)⟩) (pre3V g hK mq4_ kq4_ (by decide) (q := (RX9, TX9, 13)) rfl) rfl rfl hl.1 rfl (lv_room (Nat.le_of_ble_eq_true rfl)) dX2_readAssignment_54 ⟨(Nat.le_of_ble_eq_true rfl), (Nat.le_of_ble_eq_true rfl)⟩) g hK (by decide) (by decide) (fx' := [(8, 6, q0_, .int x_74), (0, 13, q2_, .int 0), (0, 12, q2_, .int 1), (0, 11, q2_, .int 0), (0, 10, q2_, .int 0), (0, 8, q2_, .int 0), (0, 2, q2_, .ref q3_), (9, 2, q4_, .int x_6), (2, 15, a0_, .int x_1), (2, 0, a0_, .ref q0_), (2, 1, a0_, .ref q1_), (2, 2, a0_, .ref q2_), (2, 3, a0_, .ref q3_), (2, 4, a0_, .ref q4_), (0, 0, q2_, .ref q0_), (0, 1, q2_, .ref q1_), (5, 0, q1_, .ref q3_), (5, 1, q1_, .ref q8_), (8, 8, q0_, .int y1_)]) rfl (fun r_79 fr_79 H locs hp hMr_79 g => ?_)
    obtain ⟨h_80, -⟩ := hp
    have hG_81 := dOK.frame hMr_79 go_.2.2.2.1 mq3_ kq3_ (by decide) (by decide) hG_77
    have hG_82 := eOK.frame hMr_79 go_.2.2.2.1 mq2_ kq2_ (by decide) (by decide) hG_78
    obtain ⟨a_83, ma_83, ka_83, g⟩ := g_factr g mq3_ kq3_ (by decide) 4 rfl
    obtain ⟨a_84, ma_84, ka_84, g⟩ := g_factr g mq3_ kq3_ (by decide) 5 rfl
    obtain ⟨x_85, bx_85, g⟩ := g_facti g mq3_ kq3_ (by decide) 6 rfl
    have go_ := g
    refine g_callv (va_runV (As := [.int 11, .int r_79]) (rest := []) ⟨hx, hb, hml, hown, hts⟩ (r_X7_emitF l dC dI L kd tys fr_79 H.size g.2.2.2.1 q3_ mq3_ kq3_ a_83 ma_83 ka_83 a_84 ma_84 ka_84 x_85 bx_85 T_ hG_81 (11 : Int32) r_79 (g.fcts [2, 1, 0] rfl)) (cwV 2 hts (gV_ t_1301 t_1204 t_1205 t_191 t_1206) rfl rfl rfl (by decide +kernel) ⟨(Nat.le_of_ble_eq_true rfl), (Nat.le_of_ble_eq_true rfl)⟩) (pre3V g hK mq3_ kq3_ (by decide) (q := (RX7, TX7, 19)) rfl) rfl rfl hl.1 rfl (lv_room (Nat.le_of_ble_eq_true rfl)) dX2_readAssignment_57 ⟨(Nat.le_of_ble_eq_true rfl), (Nat.le_of_ble_eq_true rfl)⟩) g hK (by decide) (by decide) (fx' := [(7, 5, q3_, .ref a_84), (7, 4, q3_, .ref a_83), (8, 6, q0_, .int x_74), (0, 13, q2_, .int 0), (0, 12, q2_, .int 1), (0, 11, q2_, .int 0), (0, 10, q2_, .int 0), (0, 8, q2_, .int 0), (0, 2, q2_, .ref q3_), (9, 2, q4_, .int x_6), (2, 15, a0_, .int x_1), (2, 0, a0_, .ref q0_), (2, 1, a0_, .ref q1_), (2, 2, a0_, .ref q2_), (2, 3, a0_, .ref q3_), (2, 4, a0_, .ref q4_), (0, 0, q2_, .ref q0_), (0, 1, q2_, .ref q1_), (5, 0, q1_, .ref q3_), (5, 1, q1_, .ref q8_), (8, 8, q0_, .int y1_)]) rfl (fun fr_86 H locs hp hMr_86 g => ?_)
    obtain ⟨hG_87, x_88, h_89, hF_90⟩ := hp
    have hG_91 := eOK.frame hMr_86 go_.2.2.2.1 mq2_ kq2_ (by decide) (by decide) hG_82
    have g := g.more hF_90
    refine lv_aload_n hx hb dX2_readAssignment_60 rfl (lv_at hl 2 rfl) ?_
    refine g_getk (C := RX2) (T := TX2) (N := 16) hx hb hts (mc_ inX2) hown hK g rfl 0 (by decide) rfl (hts _ (List.mem_cons_of_mem _ t_416)) (fun _ h9 => h9) 12 rfl dX2_readAssignment_61 ?_
    refine lv_bipush (v := 61) hx hb dX2_readAssignment_64 (by decide) ?_
    have go_ := g
    refine g_callv (va_runV (As := [.int 61]) (rest := []) ⟨hx, hb, hml, hown, hts⟩ (r_X8_take_2 l dC dI L kd tys fr_86 H.size g.2.2.2.1 q0_ mq0_ kq0_ 61 x_74 h_75 y1_ by1_ (g.fcts [3, 21] rfl)) (cwV 1 hts (gV_ t_1098 t_1099 t_1100 t_184 t_1101) rfl rfl rfl (by decide +kernel) ⟨(Nat.le_of_ble_eq_true rfl), (Nat.le_of_ble_eq_true rfl)⟩) (pre3V g hK mq0_ kq0_ (by decide) (q := (RX8, TX8, 10)) rfl) rfl rfl hl.1 rfl (lv_room (Nat.le_of_ble_eq_true rfl)) dX2_readAssignment_66 ⟨(Nat.le_of_ble_eq_true rfl), (Nat.le_of_ble_eq_true rfl)⟩) g hK (by decide) (by decide) (fx' := [(7, 6, q3_, .int x_88), (7, 5, q3_, .ref a_84), (7, 4, q3_, .ref a_83), (0, 13, q2_, .int 0), (0, 12, q2_, .int 1), (0, 11, q2_, .int 0), (0, 10, q2_, .int 0), (0, 8, q2_, .int 0), (0, 2, q2_, .ref q3_), (9, 2, q4_, .int x_6), (2, 15, a0_, .int x_1), (2, 0, a0_, .ref q0_), (2, 1, a0_, .ref q1_), (2, 2, a0_, .ref q2_), (2, 3, a0_, .ref q3_), (2, 4, a0_, .ref q4_), (0, 0, q2_, .ref q0_), (0, 1, q2_, .ref q1_), (5, 0, q1_, .ref q3_), (5, 1, q1_, .ref q8_), (8, 8, q0_, .int y1_)]) rfl (fun fr_92 H locs hp hMr_92 g => ?_)
    obtain ⟨x_93, h_94, hF_95⟩ := hp
    have hG_96 := dOK.frame hMr_92 go_.2.2.2.1 mq3_ kq3_ (by decide) (by decide) hG_87
    have hG_97 := eOK.frame hMr_92 go_.2.2.2.1 mq2_ kq2_ (by decide) (by decide) hG_91
    have g := g.more hF_95
    refine lv_aload_n hx hb dX2_readAssignment_69 rfl (lv_at hl 2 rfl) ?_
    refine g_getk (C := RX2) (T := TX2) (N := 16) hx hb hts (mc_ inX2) hown hK g rfl 2 (by decide) rfl (hts _ (List.mem_cons_of_mem _ t_418)) (fun _ h9 => h9) 14 rfl dX2_readAssignment_70 ?_
    have go_ := g
    refine g_callv (va_runV (As := []) (rest := []) ⟨hx, hb, hml, hown, hts⟩ (r_X0_read_2 l dC dI L kd tys fr_92 H.size g.2.2.2.1 q2_ mq2_ kq2_ q0_ mq0_ kq0_ q1_ mq1_ kq1_ q3_ mq3_ kq3_ q8_ mq8_ kq8_ x_93 h_94 y1_ by1_ T_ hG_97 hG_96 (g.fcts [17, 18, 19, 20, 0, 21] rfl)) (cwV 0 hts (gV_ t_1182 t_1183 t_1184 t_190 t_1185) rfl rfl rfl (by decide +kernel) ⟨(Nat.le_of_ble_eq_true rfl), (Nat.le_of_ble_eq_true rfl)⟩) (pre3V g hK mq2_ kq2_ (by decide) (q := (RX0, TX0, 14)) rfl) rfl rfl hl.1 rfl (lv_room (Nat.le_of_ble_eq_true rfl)) dX2_readAssignment_73 ⟨(Nat.le_of_ble_eq_true rfl), (Nat.le_of_ble_eq_true rfl)⟩) g hK (by decide) (by decide) (fx' := [(8, 6, q0_, .int x_93), (7, 6, q3_, .int x_88), (7, 5, q3_, .ref a_84), (7, 4, q3_, .ref a_83), (9, 2, q4_, .int x_6), (2, 15, a0_, .int x_1), (2, 0, a0_, .ref q0_), (2, 1, a0_, .ref q1_), (2, 2, a0_, .ref q2_), (2, 3, a0_, .ref q3_), (2, 4, a0_, .ref q4_), (0, 0, q2_, .ref q0_), (0, 1, q2_, .ref q1_), (5, 0, q1_, .ref q3_), (5, 1, q1_, .ref q8_), (8, 8, q0_, .int y1_)]) rfl (fun fr_98 H locs hp hMr_98 g => ?_)
    have hF_99 := hp
    have hG_100 := dOK.frame hMr_98 go_.2.2.2.1 mq3_ kq3_ (by decide) (by decide) hG_96
    have hG_101 := eOK.frame hMr_98 go_.2.2.2.1 mq2_ kq2_ (by decide) (by decide) hG_97
    have g := g.more hF_99
    refine lv_iload_n hx hb dX2_readAssignment_76 rfl (lv_at hl 1 rfl) ?_
    refine lv_bipush (v := 16) hx hb dX2_readAssignment_77 (by decide) ?_
    have kb_16 : bd 16 16 (16 : Int32) := ⟨by decide, by decide⟩
    refine lv_icmp_lt (tgt := 98) hx hb dX2_readAssignment_79 (by decide) (fun c_102 => ?_) (fun c_102 => ?_)
    · have fc_102 := lt_f c_102
      refine lv_aload_n hx hb dX2_readAssignment_98 rfl (lv_at hl 2 rfl) ?_
      refine g_getk (C := RX2) (T := TX2) (N := 16) hx hb hts (mc_ inX2) hown hK g rfl 3 (by decide) rfl (hts _ (List.mem_cons_of_mem _ t_419)) (fun _ h9 => h9) 15 rfl dX2_readAssignment_99 ?_
      refine lv_iload_n hx hb dX2_readAssignment_102 rfl (lv_at hl 0 rfl) ?_
      refine lv_if_eq (tgt := 111) hx hb dX2_readAssignment_103 (by decide) (fun c_ => absurd c_ (by decide)) (fun c_ => ?_)
      refine lv_bipush (v := 27) hx hb dX2_readAssignment_106 (by decide) ?_
      refine lv_goto (tgt := 113) hx hb dX2_readAssignment_108 (by decide) ?_
      refine lv_aload_n hx hb dX2_readAssignment_113 rfl (lv_at hl 2 rfl) ?_
      refine g_getk (C := RX2) (T := TX2) (N := 16) hx hb hts (mc_ inX2) hown hK g rfl 4 (by decide) rfl (hts _ (List.mem_cons_of_mem _ t_420)) (fun _ h9 => h9) 16 rfl dX2_readAssignment_114 ?_
      refine lv_iload_n hx hb dX2_readAssignment_117 rfl (lv_at hl 1 rfl) ?_
      have go_ := g
      refine g_calli (va_runV (As := [.int x_1]) (rest := [.int 27, .ref q3_]) ⟨hx, hb, hml, hown, hts⟩ (r_X9_spanOf l dC dI L kd tys fr_98 H.size g.2.2.2.1 q4_ mq4_ kq4_ x_1) (cwV 1 hts (gV_ t_1401 t_1265 t_1266 t_192 t_1267) rfl rfl rfl (by decide +kernel) ⟨(Nat.le_of_ble_eq_true rfl), (Nat.le_of_ble_eq_true rfl)⟩) (pre3V g hK mq4_ kq4_ (by decide) (q := (RX9, TX9, 13)) rfl) rfl rfl hl.1 rfl (lv_room (Nat.le_of_ble_eq_true rfl)) dX2_readAssignment_118 ⟨(Nat.le_of_ble_eq_true rfl), (Nat.le_of_ble_eq_true rfl)⟩) g hK (by decide) (by decide) (fx' := [(0, 13, q2_, .int 0), (0, 12, q2_, .int 1), (0, 11, q2_, .int 0), (0, 10, q2_, .int 0), (0, 8, q2_, .int 0), (0, 2, q2_, .ref q3_), (8, 6, q0_, .int x_93), (7, 6, q3_, .int x_88), (7, 5, q3_, .ref a_84), (7, 4, q3_, .ref a_83), (9, 2, q4_, .int x_6), (2, 15, a0_, .int x_1), (2, 0, a0_, .ref q0_), (2, 1, a0_, .ref q1_), (2, 2, a0_, .ref q2_), (2, 3, a0_, .ref q3_), (2, 4, a0_, .ref q4_), (0, 0, q2_, .ref q0_), (0, 1, q2_, .ref q1_), (5, 0, q1_, .ref q3_), (5, 1, q1_, .ref q8_), (8, 8, q0_, .int y1_)]) rfl (fun r_103 fr_103 H locs hp hMr_103 g => ?_)
      obtain ⟨h_104, -⟩ := hp
      have hG_105 := dOK.frame hMr_103 go_.2.2.2.1 mq3_ kq3_ (by decide) (by decide) hG_100
      have hG_106 := eOK.frame hMr_103 go_.2.2.2.1 mq2_ kq2_ (by decide) (by decide) hG_101
      have go_ := g
      refine g_callv (va_runV (As := [.int 27, .int r_103]) (rest := []) ⟨hx, hb, hml, hown, hts⟩ (r_X7_emitF l dC dI L kd tys fr_103 H.size g.2.2.2.1 q3_ mq3_ kq3_ a_83 ma_83 ka_83 a_84 ma_84 ka_84 x_88 h_89 T_ hG_105 (27 : Int32) r_103 (g.fcts [9, 8, 7] rfl)) (cwV 2 hts (gV_ t_1301 t_1204 t_1205 t_191 t_1206) rfl rfl rfl (by decide +kernel) ⟨(Nat.le_of_ble_eq_true rfl), (Nat.le_of_ble_eq_true rfl)⟩) (pre3V g hK mq3_ kq3_ (by decide) (q := (RX7, TX7, 19)) rfl) rfl rfl hl.1 rfl (lv_room (Nat.le_of_ble_eq_true rfl)) dX2_readAssignment_121 ⟨(Nat.le_of_ble_eq_true rfl), (Nat.le_of_ble_eq_true rfl)⟩) g hK (by decide) (by decide) (fx' := [(0, 13, q2_, .int 0), (0, 12, q2_, .int 1), (0, 11, q2_, .int 0), (0, 10, q2_, .int 0), (0, 8, q2_, .int 0), (0, 2, q2_, .ref q3_), (8, 6, q0_, .int x_93), (7, 5, q3_, .ref a_84), (7, 4, q3_, .ref a_83), (9, 2, q4_, .int x_6), (2, 15, a0_, .int x_1), (2, 0, a0_, .ref q0_), (2, 1, a0_, .ref q1_), (2, 2, a0_, .ref q2_), (2, 3, a0_, .ref q3_), (2, 4, a0_, .ref q4_), (0, 0, q2_, .ref q0_), (0, 1, q2_, .ref q1_), (5, 0, q1_, .ref q3_), (5, 1, q1_, .ref q8_), (8, 8, q0_, .int y1_)]) rfl (fun fr_107 H locs hp hMr_107 g => ?_)
      obtain ⟨hG_108, x_109, h_110, hF_111⟩ := hp
      have hG_112 := eOK.frame hMr_107 go_.2.2.2.1 mq2_ kq2_ (by decide) (by decide) hG_106
      have g := g.more hF_111
      refine lv_aload_n hx hb dX2_readAssignment_124 rfl (lv_at hl 2 rfl) ?_
      refine g_getk (C := RX2) (T := TX2) (N := 16) hx hb hts (mc_ inX2) hown hK g rfl 0 (by decide) rfl (hts _ (List.mem_cons_of_mem _ t_416)) (fun _ h9 => h9) 12 rfl dX2_readAssignment_125 ?_
      refine lv_bipush (v := 59) hx hb dX2_readAssignment_128 (by decide) ?_
      have go_ := g
      refine g_callv (va_runV (As := [.int 59]) (rest := []) ⟨hx, hb, hml, hown, hts⟩ (r_X8_take_2 l dC dI L kd tys fr_107 H.size g.2.2.2.1 q0_ mq0_ kq0_ 59 x_93 h_94 y1_ by1_ (g.fcts [7, 21] rfl)) (cwV 1 hts (gV_ t_1098 t_1099 t_1100 t_184 t_1101) rfl rfl rfl (by decide +kernel) ⟨(Nat.le_of_ble_eq_true rfl), (Nat.le_of_ble_eq_true rfl)⟩) (pre3V g hK mq0_ kq0_ (by decide) (q := (RX8, TX8, 10)) rfl) rfl rfl hl.1 rfl (lv_room (Nat.le_of_ble_eq_true rfl)) dX2_readAssignment_130 ⟨(Nat.le_of_ble_eq_true rfl), (Nat.le_of_ble_eq_true rfl)⟩) g hK (by decide) (by decide) (fx' := [(7, 6, q3_, .int x_109), (0, 13, q2_, .int 0), (0, 12, q2_, .int 1), (0, 11, q2_, .int 0), (0, 10, q2_, .int 0), (0, 8, q2_, .int 0), (0, 2, q2_, .ref q3_), (7, 5, q3_, .ref a_84), (7, 4, q3_, .ref a_83), (9, 2, q4_, .int x_6), (2, 15, a0_, .int x_1), (2, 0, a0_, .ref q0_), (2, 1, a0_, .ref q1_), (2, 2, a0_, .ref q2_), (2, 3, a0_, .ref q3_), (2, 4, a0_, .ref q4_), (0, 0, q2_, .ref q0_), (0, 1, q2_, .ref q1_), (5, 0, q1_, .ref q3_), (5, 1, q1_, .ref q8_), (8, 8, q0_, .int y1_)]) rfl (fun fr_113 H locs hp hMr_113 g => ?_)
      obtain ⟨x_114, h_115, hF_116⟩ := hp
      have hG_117 := dOK.frame hMr_113 go_.2.2.2.1 mq3_ kq3_ (by decide) (by decide) hG_108
      have hG_118 := eOK.frame hMr_113 go_.2.2.2.1 mq2_ kq2_ (by decide) (by decide) hG_112
      have g := g.more hF_116
      subst hQ
      exact W.vret hx hb hr (fun t ht hW => ⟨⟨_, rfl, ⟨hG_117, x_114, h_115, (g.fcts [0, 2, 3, 4, 5, 6, 7] rfl)⟩, q3_of g hK ht hW⟩, g.2.2.1.F ht⟩) g.2.2.1.2.2 dX2_readAssignment_133
    · have fc_102 := nlt_f c_102
      have b_119 : bd 16 9 (16 : Int32) := leL fc_102 kb_16 b_62 (by decide)
      exact bd_no (eqX rfl b_119 kb_16 (lo := 16) (hi := 9) (by decide)) (by decide)
set_option maxHeartbeats 4000000 in
set_option maxRecDepth 100000 in
theorem r_X2_readReturn (l : Launch) (dC : Nat → ClassId) (dI : Nat → Nat → Nat) (L : List Nat) (kd : Nat → Nat) (tys : List (ClassId × FieldType)) (f0 : Nat → va_E) (sz : Nat) (hWT : WT L kd tys f0) (a0_ : Nat) (ma0_ : a0_ ∈ L) (ka0_ : kd a0_ = 2) (q0_ : Nat) (mq0_ : q0_ ∈ L) (kq0_ : kd q0_ = 8) (q1_ : Nat) (mq1_ : q1_ ∈ L) (kq1_ : kd q1_ = 5) (q2_ : Nat) (mq2_ : q2_ ∈ L) (kq2_ : kd q2_ = 0) (q3_ : Nat) (mq3_ : q3_ ∈ L) (kq3_ : kd q3_ = 7) (q7_ : Nat) (mq7_ : q7_ ∈ L) (kq7_ : kd q7_ = 9) (y0_ : Int32) (by0_ : bd 1201 1201 y0_) (y1_ : Int32) (by1_ : bd 1 7 y1_) (T_ : Nat) (hGdq3_ : dOK L kd f0 q3_ T_) (hGeq2_ : eOK f0 q2_) (hfx : Fs L kd f0 [(2, 0, a0_, .ref q0_), (2, 1, a0_, .ref q1_), (2, 2, a0_, .ref q2_), (2, 3, a0_, .ref q3_), (0, 0, q2_, .ref q0_), (0, 1, q2_, .ref q1_), (5, 0, q1_, .ref q3_), (5, 1, q1_, .ref q7_), (8, 6, q0_, .int y0_), (8, 8, q0_, .int y1_)]) : Met l yX2_readReturn (.code yX2_readReturn cX2_readReturn 1 none :: lw_g) ({ frames := 2, cells := 0, slots := 0, locals := 44 }) (va_Pc [.ref a0_] (P3 (dC, dI) L tys f0 sz)) (va_Qv (fun (f : Nat → va_E) => (dOK L kd f q3_ T_ ∧ ∃ z0_ : Int32, bd 1201 1201 z0_ ∧ Fs L kd f [(8, 6, q0_, .int z0_), (0, 13, q2_, .int 0), (0, 12, q2_, .int 1), (0, 11, q2_, .int 0), (0, 10, q2_, .int 0), (0, 8, q2_, .int 0), (0, 2, q2_, .ref q3_)])) (Q3 (dC, dI) L kd tys [(0, 2), (0, 8), (0, 10), (0, 11), (0, 12), (0, 13), (7, 6), (8, 6)] [138, 139] f0 sz) (pA L sz)) 0 0 (pA L sz) := by
  refine Met.ofW (cc := cX2_readReturn) (maxL := 1) (ret := none) (by decide) rfl ?_
  intro p e s m args below meth c s₁ B hml hv
  obtain ⟨rfl, hsz, hP, hK, hD0⟩ := hv
  have hx := B.exec
  have hb := B.bytes
  have hr := B.returns
  have hts := atoms_spec (ws := (.code yX2_readReturn cX2_readReturn 1 none :: lw_g)) B.pre
  have hown : s.vm.findClass RX2 = some m.cls := findClass_of_methodNamed B.named
  have hlocks := B.notSynchronized
  subst hsz
  have g : G3 (dC, dI) L kd tys s f0 [(0, 2), (0, 8), (0, 10), (0, 11), (0, 12), (0, 13), (7, 6), (8, 6)] [138, 139] f0 s.heap [] [(2, 0, a0_, .ref q0_), (2, 1, a0_, .ref q1_), (2, 2, a0_, .ref q2_), (2, 3, a0_, .ref q3_), (0, 0, q2_, .ref q0_), (0, 1, q2_, .ref q1_), (5, 0, q1_, .ref q3_), (5, 1, q1_, .ref q7_), (8, 6, q0_, .int y0_), (8, 8, q0_, .int y1_)] := G3.start hP hD0 hWT hfx
  have hl := lv_entry ([.ref a0_]) (n := 1) (Nat.le_of_ble_eq_true rfl)
  rw [lg_entry_eq]
  generalize (lg_sl ([.ref a0_]) ++ List.replicate (1 - (lg_sl ([.ref a0_])).length) Slot.unset).toArray = ls at hl ⊢
  have hl : lv_has ls 1 [(0, .ref a0_)] := hl
  refine W_q (fun Q hQ => ?_)
  refine lv_aload_n hx hb dX2_readReturn_0 rfl (lv_at hl 0 rfl) ?_
  refine g_getk (C := RX2) (T := TX2) (N := 16) hx hb hts (mc_ inX2) hown hK g rfl 0 (by decide) rfl (hts _ (List.mem_cons_of_mem _ t_416)) (fun _ h9 => h9) 0 rfl dX2_readReturn_1 ?_
  have go_ := g
  refine g_callv (va_runV (As := []) (rest := []) ⟨hx, hb, hml, hown, hts⟩ (r_X8_next_2 l dC dI L kd tys f0 s.heap.size g.2.2.2.1 q0_ mq0_ kq0_ y0_ by0_ (g.fcts [8] rfl)) (cwV 0 hts (gV_ t_1131 t_1103 t_1104 t_184 t_1105) rfl rfl rfl (by decide +kernel) ⟨(Nat.le_of_ble_eq_true rfl), (Nat.le_of_ble_eq_true rfl)⟩) (pre3V g hK mq0_ kq0_ (by decide) (q := (RX8, TX8, 10)) rfl) rfl rfl hl.1 rfl (lv_room (Nat.le_of_ble_eq_true rfl)) dX2_readReturn_4 ⟨(Nat.le_of_ble_eq_true rfl), (Nat.le_of_ble_eq_true rfl)⟩) g hK (by decide) (by decide) (fx' := [(2, 0, a0_, .ref q0_), (2, 1, a0_, .ref q1_), (2, 2, a0_, .ref q2_), (2, 3, a0_, .ref q3_), (0, 0, q2_, .ref q0_), (0, 1, q2_, .ref q1_), (5, 0, q1_, .ref q3_), (5, 1, q1_, .ref q7_), (8, 6, q0_, .int y0_), (8, 8, q0_, .int y1_)]) rfl (fun fr_1 H locs hp hMr_1 g => ?_)
  have hG_2 := dOK.frame hMr_1 go_.2.2.2.1 mq3_ kq3_ (by decide) (by decide) hGdq3_
  have hG_3 := eOK.frame hMr_1 go_.2.2.2.1 mq2_ kq2_ (by decide) (by decide) hGeq2_
  refine lv_aload_n hx hb dX2_readReturn_7 rfl (lv_at hl 0 rfl) ?_
  refine g_getk (C := RX2) (T := TX2) (N := 16) hx hb hts (mc_ inX2) hown hK g rfl 2 (by decide) rfl (hts _ (List.mem_cons_of_mem _ t_418)) (fun _ h9 => h9) 2 rfl dX2_readReturn_8 ?_
  have go_ := g
  refine g_callv (va_runV (As := []) (rest := []) ⟨hx, hb, hml, hown, hts⟩ (r_X0_read_2 l dC dI L kd tys fr_1 H.size g.2.2.2.1 q2_ mq2_ kq2_ q0_ mq0_ kq0_ q1_ mq1_ kq1_ q3_ mq3_ kq3_ q7_ mq7_ kq7_ y0_ by0_ y1_ by1_ T_ hG_3 hG_2 (g.fcts [4, 5, 6, 7, 8, 9] rfl)) (cwV 0 hts (gV_ t_1182 t_1183 t_1184 t_190 t_1185) rfl rfl rfl (by decide +kernel) ⟨(Nat.le_of_ble_eq_true rfl), (Nat.le_of_ble_eq_true rfl)⟩) (pre3V g hK mq2_ kq2_ (by decide) (q := (RX0, TX0, 14)) rfl) rfl rfl hl.1 rfl (lv_room (Nat.le_of_ble_eq_true rfl)) dX2_readReturn_11 ⟨(Nat.le_of_ble_eq_true rfl), (Nat.le_of_ble_eq_true rfl)⟩) g hK (by decide) (by decide) (fx' := [(2, 0, a0_, .ref q0_), (2, 1, a0_, .ref q1_), (2, 2, a0_, .ref q2_), (2, 3, a0_, .ref q3_), (0, 0, q2_, .ref q0_), (0, 1, q2_, .ref q1_), (5, 0, q1_, .ref q3_), (5, 1, q1_, .ref q7_), (8, 6, q0_, .int y0_), (8, 8, q0_, .int y1_)]) rfl (fun fr_4 H locs hp hMr_4 g => ?_)
  have hF_5 := hp
  have hG_6 := dOK.frame hMr_4 go_.2.2.2.1 mq3_ kq3_ (by decide) (by decide) hG_2
  have hG_7 := eOK.frame hMr_4 go_.2.2.2.1 mq2_ kq2_ (by decide) (by decide) hG_3
  have g := g.more hF_5
  refine lv_aload_n hx hb dX2_readReturn_14 rfl (lv_at hl 0 rfl) ?_
  refine g_getk (C := RX2) (T := TX2) (N := 16) hx hb hts (mc_ inX2) hown hK g rfl 3 (by decide) rfl (hts _ (List.mem_cons_of_mem _ t_419)) (fun _ h9 => h9) 9 rfl dX2_readReturn_15 ?_
  refine lv_bipush (v := 26) hx hb dX2_readReturn_18 (by decide) ?_
  refine lv_iconst (v := 0) hx hb dX2_readReturn_20 (by decide) ?_
  obtain ⟨a_8, ma_8, ka_8, g⟩ := g_factr g mq3_ kq3_ (by decide) 4 rfl
  obtain ⟨a_9, ma_9, ka_9, g⟩ := g_factr g mq3_ kq3_ (by decide) 5 rfl
  obtain ⟨x_10, bx_10, g⟩ := g_facti g mq3_ kq3_ (by decide) 6 rfl
  have go_ := g
  refine g_callv (va_runV (As := [.int 26, .int 0]) (rest := []) ⟨hx, hb, hml, hown, hts⟩ (r_X7_emitF l dC dI L kd tys fr_4 H.size g.2.2.2.1 q3_ mq3_ kq3_ a_8 ma_8 ka_8 a_9 ma_9 ka_9 x_10 bx_10 T_ hG_6 (26 : Int32) (0 : Int32) (g.fcts [2, 1, 0] rfl)) (cwV 2 hts (gV_ t_1301 t_1204 t_1205 t_191 t_1206) rfl rfl rfl (by decide +kernel) ⟨(Nat.le_of_ble_eq_true rfl), (Nat.le_of_ble_eq_true rfl)⟩) (pre3V g hK mq3_ kq3_ (by decide) (q := (RX7, TX7, 19)) rfl) rfl rfl hl.1 rfl (lv_room (Nat.le_of_ble_eq_true rfl)) dX2_readReturn_21 ⟨(Nat.le_of_ble_eq_true rfl), (Nat.le_of_ble_eq_true rfl)⟩) g hK (by decide) (by decide) (fx' := [(7, 5, q3_, .ref a_9), (7, 4, q3_, .ref a_8), (0, 13, q2_, .int 0), (0, 12, q2_, .int 1), (0, 11, q2_, .int 0), (0, 10, q2_, .int 0), (0, 8, q2_, .int 0), (0, 2, q2_, .ref q3_), (2, 0, a0_, .ref q0_), (2, 1, a0_, .ref q1_), (2, 2, a0_, .ref q2_), (2, 3, a0_, .ref q3_), (0, 0, q2_, .ref q0_), (0, 1, q2_, .ref q1_), (5, 0, q1_, .ref q3_), (5, 1, q1_, .ref q7_), (8, 6, q0_, .int y0_), (8, 8, q0_, .int y1_)]) rfl (fun fr_11 H locs hp hMr_11 g => ?_)
  obtain ⟨hG_12, x_13, h_14, hF_15⟩ := hp
  have hG_16 := eOK.frame hMr_11 go_.2.2.2.1 mq2_ kq2_ (by decide) (by decide) hG_7
  have g := g.more hF_15
  refine lv_aload_n hx hb dX2_readReturn_24 rfl (lv_at hl 0 rfl) ?_
  refine g_getk (C := RX2) (T := TX2) (N := 16) hx hb hts (mc_ inX2) hown hK g rfl 0 (by decide) rfl (hts _ (List.mem_cons_of_mem _ t_416)) (fun _ h9 => h9) 9 rfl dX2_readReturn_25 ?_
  refine lv_bipush (v := 59) hx hb dX2_readReturn_28 (by decide) ?_
  have go_ := g
  refine g_callv (va_runV (As := [.int 59]) (rest := []) ⟨hx, hb, hml, hown, hts⟩ (r_X8_take_2 l dC dI L kd tys fr_11 H.size g.2.2.2.1 q0_ mq0_ kq0_ 59 y0_ by0_ y1_ by1_ (g.fcts [17, 18] rfl)) (cwV 1 hts (gV_ t_1098 t_1099 t_1100 t_184 t_1101) rfl rfl rfl (by decide +kernel) ⟨(Nat.le_of_ble_eq_true rfl), (Nat.le_of_ble_eq_true rfl)⟩) (pre3V g hK mq0_ kq0_ (by decide) (q := (RX8, TX8, 10)) rfl) rfl rfl hl.1 rfl (lv_room (Nat.le_of_ble_eq_true rfl)) dX2_readReturn_30 ⟨(Nat.le_of_ble_eq_true rfl), (Nat.le_of_ble_eq_true rfl)⟩) g hK (by decide) (by decide) (fx' := [(7, 6, q3_, .int x_13), (7, 5, q3_, .ref a_9), (7, 4, q3_, .ref a_8), (0, 13, q2_, .int 0), (0, 12, q2_, .int 1), (0, 11, q2_, .int 0), (0, 10, q2_, .int 0), (0, 8, q2_, .int 0), (0, 2, q2_, .ref q3_), (2, 0, a0_, .ref q0_), (2, 1, a0_, .ref q1_), (2, 2, a0_, .ref q2_), (2, 3, a0_, .ref q3_), (0, 0, q2_, .ref q0_), (0, 1, q2_, .ref q1_), (5, 0, q1_, .ref q3_), (5, 1, q1_, .ref q7_), (8, 8, q0_, .int y1_)]) rfl (fun fr_17 H locs hp hMr_17 g => ?_)
  obtain ⟨x_18, h_19, hF_20⟩ := hp
  have hG_21 := dOK.frame hMr_17 go_.2.2.2.1 mq3_ kq3_ (by decide) (by decide) hG_12
  have hG_22 := eOK.frame hMr_17 go_.2.2.2.1 mq2_ kq2_ (by decide) (by decide) hG_16
  have g := g.more hF_20
  subst hQ
  exact W.vret hx hb hr (fun t ht hW => ⟨⟨_, rfl, ⟨hG_21, x_18, h_19, (g.fcts [0, 4, 5, 6, 7, 8, 9] rfl)⟩, q3_of g hK ht hW⟩, g.2.2.1.F ht⟩) g.2.2.1.2.2 dX2_readReturn_33
set_option maxHeartbeats 4000000 in
set_option maxRecDepth 100000 in
theorem r_X7_addWord (l : Launch) (dC : Nat → ClassId) (dI : Nat → Nat → Nat) (L : List Nat) (kd : Nat → Nat) (tys : List (ClassId × FieldType)) (f0 : Nat → va_E) (sz : Nat) (hWT : WT L kd tys f0) (a0_ : Nat) (ma0_ : a0_ ∈ L) (ka0_ : kd a0_ = 7) (x1_ : Int64) : Met l yX7_addWord (.code yX7_addWord cX7_addWord 4 (some .int) :: lw_g) ({ frames := 1, cells := 0, slots := 0, locals := 13 }) (va_Pc [.ref a0_, .long x1_] (P3 (dC, dI) L tys f0 sz)) (va_Qi (fun (r : Int32) (f : Nat → va_E) => (bd 0 419 r ∧ ∃ z0_ : Int32, bd 1 420 z0_ ∧ Fs L kd f [(7, 17, a0_, .int z0_)])) (Q3 (dC, dI) L kd tys [(7, 17)] [147] f0 sz) (pA L sz)) 0 0 (pA L sz) := by
  refine Met.ofW (cc := cX7_addWord) (maxL := 4) (ret := (some .int)) (by decide) rfl ?_
  intro p e s m args below meth c s₁ B hml hv
  obtain ⟨rfl, hsz, hP, hK, hD0⟩ := hv
  have hx := B.exec
  have hb := B.bytes
  have hr := B.returns
  have hts := atoms_spec (ws := (.code yX7_addWord cX7_addWord 4 (some .int) :: lw_g)) B.pre
  have hown : s.vm.findClass RX7 = some m.cls := findClass_of_methodNamed B.named
  have hlocks := B.notSynchronized
  subst hsz
  have g : G3 (dC, dI) L kd tys s f0 [(7, 17)] [147] f0 s.heap [] [] := G3.start hP hD0 hWT Fs.nil
  have hl := lv_entry ([.ref a0_, .long x1_]) (n := 4) (Nat.le_of_ble_eq_true rfl)
  rw [lg_entry_eq]
  generalize (lg_sl ([.ref a0_, .long x1_]) ++ List.replicate (4 - (lg_sl ([.ref a0_, .long x1_])).length) Slot.unset).toArray = ls at hl ⊢
  have hl : lv_has ls 4 [(0, .ref a0_), (1, .long x1_)] := hl
  refine W_q (fun Q hQ => ?_)
  refine lv_aload_n hx hb dX7_addWord_0 rfl (lv_at hl 0 rfl) ?_
  refine g_geti (C := RX7) (T := TX7) (N := 19) hx hb hts (mc_ inX7) hown hK g ma0_ ka0_ (by decide) rfl 17 (by decide) rfl (hts _ (List.mem_cons_of_mem _ t_678)) (fun _ h9 => h9) rfl dX7_addWord_1 (fun x_1 bx_1 g => ?_)
  refine lv_sipush (v := 419) hx hb dX7_addWord_4 (by decide) ?_
  have kb_419 : bd 419 419 (419 : Int32) := ⟨by decide, by decide⟩
  refine va_mmin hx hb (hml.trans hl.1.symm) hown (hts _ (List.mem_cons_of_mem _ t_1177)) (hts _ (List.mem_cons_of_mem _ t_998)) (hts _ (List.mem_cons_of_mem _ t_204)) (hts _ (List.mem_cons_of_mem _ t_999)) (Nat.le_of_ble_eq_true rfl) (Nat.le_of_ble_eq_true rfl) (Nat.le_of_ble_eq_true rfl) (Nat.le_of_ble_eq_true rfl) dX7_addWord_7 ?_
  refine lv_topi (fun y_2 ey_2 => ?_)
  have ty_2 : y_2.toInt = min x_1.toInt (419 : Int32).toInt := by rw [ey_2]; exact mmin_ok _ _
  have b_3 : bd 0 419 y_2 := min_rg ty_2 bx_1 kb_419 (by decide)
  refine lv_istore_n (lv' := [(3, .int y_2), (0, .ref a0_), (1, .long x1_)]) hx hb dX7_addWord_10 rfl hl (by decide) rfl (fun ls hl => ?_)
  refine lv_aload_n hx hb dX7_addWord_11 rfl (lv_at hl 1 rfl) ?_
  refine g_getr (K := 147) (C := RX7) (T := TX7) (N := 19) hx hb hts (mc_ inX7) hown hK g ma0_ ka0_ (by decide) rfl 16 (by decide) rfl (hts _ (List.mem_cons_of_mem _ t_676)) (fun _ h9 => h9) rfl dX7_addWord_12 (fun a_4 ma_4 ka_4 g => ?_)
  refine lv_iload_n hx hb dX7_addWord_15 rfl (lv_at hl 0 rfl) ?_
  refine lv_lload_n hx hb dX7_addWord_16 rfl (lv_at hl 2 rfl) ?_
  refine g_last hx hb hK g ma_4 ka_4 (by decide) rfl (in_bd b_3 (by decide)) (by decide) dX7_addWord_17 (fun f H locs hM_5 g => ?_)
  refine lv_aload_n hx hb dX7_addWord_18 rfl (lv_at hl 1 rfl) ?_
  refine lv_iload_n hx hb dX7_addWord_19 rfl (lv_at hl 0 rfl) ?_
  refine lv_iconst (v := 1) hx hb dX7_addWord_20 (by decide) ?_
  have kb_1 : bd 1 1 (1 : Int32) := ⟨by decide, by decide⟩
  refine lv_iadd hx hb dX7_addWord_21 ?_
  refine lv_topi (fun y_6 ey_6 => ?_)
  have ty_6 := add_bd ey_6 b_3 kb_1 (by decide)
  have b_7 : bd 1 420 y_6 := add_rg ty_6 b_3 kb_1 (by decide)
  refine g_put (C := RX7) (T := TX7) (N := 19) hx hb hts (mc_ inX7) tyX7 tyX7_ok nmX7 hown hK g ma0_ ka0_ (by decide) rfl 17 (by decide) (hts _ (List.mem_cons_of_mem _ t_678)) (fun _ h9 => h9) rfl rfl (okV_i (bd_sub b_7 (by decide))) rfl rfl (by decide) (Or.inr (Or.inl (by decide))) (fx' := [(7, 16, a0_, .ref a_4)]) rfl dX7_addWord_22 (fun f H locs hM_8 g => ?_)
  refine lv_iload_n hx hb dX7_addWord_25 rfl (lv_at hl 0 rfl) ?_
  subst hQ
  exact W.iret (v := y_2) hx hb hr (fun t ht hW => ⟨⟨_, _, rfl, ⟨b_3, y_6, b_7, (g.fcts [0] rfl)⟩, q3_of g hK ht hW⟩, g.2.2.1.F ht⟩) g.2.2.1.2.2 dX7_addWord_26
set_option maxHeartbeats 4000000 in
set_option maxRecDepth 100000 in
theorem r_X2_readThrow (l : Launch) (dC : Nat → ClassId) (dI : Nat → Nat → Nat) (L : List Nat) (kd : Nat → Nat) (tys : List (ClassId × FieldType)) (f0 : Nat → va_E) (sz : Nat) (hWT : WT L kd tys f0) (a0_ : Nat) (ma0_ : a0_ ∈ L) (ka0_ : kd a0_ = 2) (q0_ : Nat) (mq0_ : q0_ ∈ L) (kq0_ : kd q0_ = 8) (q1_ : Nat) (mq1_ : q1_ ∈ L) (kq1_ : kd q1_ = 7) (y0_ : Int32) (by0_ : bd 1201 1201 y0_) (y1_ : Int32) (by1_ : bd 1 7 y1_) (T_ : Nat) (hGdq1_ : dOK L kd f0 q1_ T_) (hfx : Fs L kd f0 [(2, 0, a0_, .ref q0_), (2, 3, a0_, .ref q1_), (8, 6, q0_, .int y0_), (8, 8, q0_, .int y1_)]) : Met l yX2_readThrow (.code yX2_readThrow cX2_readThrow 1 none :: lw_g) ({ frames := 2, cells := 0, slots := 0, locals := 44 }) (va_Pc [.ref a0_] (P3 (dC, dI) L tys f0 sz)) (va_Qv (fun (f : Nat → va_E) => (dOK L kd f q1_ T_ ∧ ∃ z0_ : Int32, bd 1201 1201 z0_ ∧ ∃ z1_ : Int32, bd 1 420 z1_ ∧ Fs L kd f [(8, 6, q0_, .int z0_), (7, 17, q1_, .int z1_)])) (Q3 (dC, dI) L kd tys [(7, 6), (7, 17), (8, 6)] [138, 139, 147] f0 sz) (pA L sz)) 0 0 (pA L sz) := by
  refine Met.ofW (cc := cX2_readThrow) (maxL := 1) (ret := none) (by decide) rfl ?_
  intro p e s m args below meth c s₁ B hml hv
  obtain ⟨rfl, hsz, hP, hK, hD0⟩ := hv
  have hx := B.exec
  have hb := B.bytes
  have hr := B.returns
  have hts := atoms_spec (ws := (.code yX2_readThrow cX2_readThrow 1 none :: lw_g)) B.pre
  have hown : s.vm.findClass RX2 = some m.cls := findClass_of_methodNamed B.named
  have hlocks := B.notSynchronized
  subst hsz
  have g : G3 (dC, dI) L kd tys s f0 [(7, 6), (7, 17), (8, 6)] [138, 139, 147] f0 s.heap [] [(2, 0, a0_, .ref q0_), (2, 3, a0_, .ref q1_), (8, 6, q0_, .int y0_), (8, 8, q0_, .int y1_)] := G3.start hP hD0 hWT hfx
  have hl := lv_entry ([.ref a0_]) (n := 1) (Nat.le_of_ble_eq_true rfl)
  rw [lg_entry_eq]
  generalize (lg_sl ([.ref a0_]) ++ List.replicate (1 - (lg_sl ([.ref a0_])).length) Slot.unset).toArray = ls at hl ⊢
  have hl : lv_has ls 1 [(0, .ref a0_)] := hl
  refine W_q (fun Q hQ => ?_)
  refine lv_aload_n hx hb dX2_readThrow_0 rfl (lv_at hl 0 rfl) ?_
  refine g_getk (C := RX2) (T := TX2) (N := 16) hx hb hts (mc_ inX2) hown hK g rfl 0 (by decide) rfl (hts _ (List.mem_cons_of_mem _ t_416)) (fun _ h9 => h9) 0 rfl dX2_readThrow_1 ?_
  have go_ := g
  refine g_callv (va_runV (As := []) (rest := []) ⟨hx, hb, hml, hown, hts⟩ (r_X8_next_2 l dC dI L kd tys f0 s.heap.size g.2.2.2.1 q0_ mq0_ kq0_ y0_ by0_ (g.fcts [2] rfl)) (cwV 0 hts (gV_ t_1131 t_1103 t_1104 t_184 t_1105) rfl rfl rfl (by decide +kernel) ⟨(Nat.le_of_ble_eq_true rfl), (Nat.le_of_ble_eq_true rfl)⟩) (pre3V g hK mq0_ kq0_ (by decide) (q := (RX8, TX8, 10)) rfl) rfl rfl hl.1 rfl (lv_room (Nat.le_of_ble_eq_true rfl)) dX2_readThrow_4 ⟨(Nat.le_of_ble_eq_true rfl), (Nat.le_of_ble_eq_true rfl)⟩) g hK (by decide) (by decide) (fx' := [(2, 0, a0_, .ref q0_), (2, 3, a0_, .ref q1_), (8, 6, q0_, .int y0_), (8, 8, q0_, .int y1_)]) rfl (fun fr_1 H locs hp hMr_1 g => ?_)
  have hG_2 := dOK.frame hMr_1 go_.2.2.2.1 mq1_ kq1_ (by decide) (by decide) hGdq1_
  refine lv_aload_n hx hb dX2_readThrow_7 rfl (lv_at hl 0 rfl) ?_
  refine g_getk (C := RX2) (T := TX2) (N := 16) hx hb hts (mc_ inX2) hown hK g rfl 3 (by decide) rfl (hts _ (List.mem_cons_of_mem _ t_419)) (fun _ h9 => h9) 1 rfl dX2_readThrow_8 ?_
  refine lv_bipush (v := 16) hx hb dX2_readThrow_11 (by decide) ?_
  refine lv_aload_n hx hb dX2_readThrow_13 rfl (lv_at hl 0 rfl) ?_
  refine g_getk (C := RX2) (T := TX2) (N := 16) hx hb hts (mc_ inX2) hown hK g rfl 3 (by decide) rfl (hts _ (List.mem_cons_of_mem _ t_419)) (fun _ h9 => h9) 1 rfl dX2_readThrow_14 ?_
  refine lv_aload_n hx hb dX2_readThrow_17 rfl (lv_at hl 0 rfl) ?_
  refine g_getk (C := RX2) (T := TX2) (N := 16) hx hb hts (mc_ inX2) hown hK g rfl 0 (by decide) rfl (hts _ (List.mem_cons_of_mem _ t_416)) (fun _ h9 => h9) 0 rfl dX2_readThrow_18 ?_
  have go_ := g
  refine g_calll (va_runV (As := []) (rest := [.ref q1_, .int 16, .ref q1_]) ⟨hx, hb, hml, hown, hts⟩ (r_X8_value l dC dI L kd tys fr_1 H.size g.2.2.2.1 q0_ mq0_ kq0_) (cwV 0 hts (gV_ t_1114 t_1115 t_1116 t_184 t_1117) rfl rfl rfl (by decide +kernel) ⟨(Nat.le_of_ble_eq_true rfl), (Nat.le_of_ble_eq_true rfl)⟩) (pre3V g hK mq0_ kq0_ (by decide) (q := (RX8, TX8, 10)) rfl) rfl rfl hl.1 rfl (lv_room (Nat.le_of_ble_eq_true rfl)) dX2_readThrow_21 ⟨(Nat.le_of_ble_eq_true rfl), (Nat.le_of_ble_eq_true rfl)⟩) g hK (by decide) (by decide) (fx' := [(2, 0, a0_, .ref q0_), (2, 3, a0_, .ref q1_), (8, 6, q0_, .int y0_), (8, 8, q0_, .int y1_)]) rfl (fun r_3 fr_3 H locs hp hMr_3 g => ?_)
  have hG_4 := dOK.frame hMr_3 go_.2.2.2.1 mq1_ kq1_ (by decide) (by decide) hG_2
  have go_ := g
  refine g_calli (va_runV (As := [.long r_3]) (rest := [.int 16, .ref q1_]) ⟨hx, hb, hml, hown, hts⟩ (r_X7_addWord l dC dI L kd tys fr_3 H.size g.2.2.2.1 q1_ mq1_ kq1_ r_3) (cwV 1 hts (gV_ t_1379 t_1380 t_1381 t_191 t_1382) rfl rfl rfl (by decide +kernel) ⟨(Nat.le_of_ble_eq_true rfl), (Nat.le_of_ble_eq_true rfl)⟩) (pre3V g hK mq1_ kq1_ (by decide) (q := (RX7, TX7, 19)) rfl) rfl rfl hl.1 rfl (lv_room (Nat.le_of_ble_eq_true rfl)) dX2_readThrow_24 ⟨(Nat.le_of_ble_eq_true rfl), (Nat.le_of_ble_eq_true rfl)⟩) g hK (by decide) (by decide) (fx' := [(2, 0, a0_, .ref q0_), (2, 3, a0_, .ref q1_), (8, 6, q0_, .int y0_), (8, 8, q0_, .int y1_)]) rfl (fun r_5 fr_5 H locs hp hMr_5 g => ?_)
  obtain ⟨h_6, x_7, h_8, hF_9⟩ := hp
  have hG_10 := dOK.frame hMr_5 go_.2.2.2.1 mq1_ kq1_ (by decide) (by decide) hG_4
  have g := g.more hF_9
  obtain ⟨a_11, ma_11, ka_11, g⟩ := g_factr g mq1_ kq1_ (by decide) 4 rfl
  obtain ⟨a_12, ma_12, ka_12, g⟩ := g_factr g mq1_ kq1_ (by decide) 5 rfl
  obtain ⟨x_13, bx_13, g⟩ := g_facti g mq1_ kq1_ (by decide) 6 rfl
  have go_ := g
  refine g_callv (va_runV (As := [.int 16, .int r_5]) (rest := []) ⟨hx, hb, hml, hown, hts⟩ (r_X7_emitF l dC dI L kd tys fr_5 H.size g.2.2.2.1 q1_ mq1_ kq1_ a_11 ma_11 ka_11 a_12 ma_12 ka_12 x_13 bx_13 T_ hG_10 (16 : Int32) r_5 (g.fcts [2, 1, 0] rfl)) (cwV 2 hts (gV_ t_1301 t_1204 t_1205 t_191 t_1206) rfl rfl rfl (by decide +kernel) ⟨(Nat.le_of_ble_eq_true rfl), (Nat.le_of_ble_eq_true rfl)⟩) (pre3V g hK mq1_ kq1_ (by decide) (q := (RX7, TX7, 19)) rfl) rfl rfl hl.1 rfl (lv_room (Nat.le_of_ble_eq_true rfl)) dX2_readThrow_27 ⟨(Nat.le_of_ble_eq_true rfl), (Nat.le_of_ble_eq_true rfl)⟩) g hK (by decide) (by decide) (fx' := [(7, 5, q1_, .ref a_12), (7, 4, q1_, .ref a_11), (7, 17, q1_, .int x_7), (2, 0, a0_, .ref q0_), (2, 3, a0_, .ref q1_), (8, 6, q0_, .int y0_), (8, 8, q0_, .int y1_)]) rfl (fun fr_14 H locs hp hMr_14 g => ?_)
  obtain ⟨hG_15, x_16, h_17, hF_18⟩ := hp
  have g := g.more hF_18
  refine lv_aload_n hx hb dX2_readThrow_30 rfl (lv_at hl 0 rfl) ?_
  refine g_getk (C := RX2) (T := TX2) (N := 16) hx hb hts (mc_ inX2) hown hK g rfl 0 (by decide) rfl (hts _ (List.mem_cons_of_mem _ t_416)) (fun _ h9 => h9) 4 rfl dX2_readThrow_31 ?_
  refine lv_iconst (v := 3) hx hb dX2_readThrow_34 (by decide) ?_
  have go_ := g
  refine g_callv (va_runV (As := [.int 3]) (rest := []) ⟨hx, hb, hml, hown, hts⟩ (r_X8_take_2 l dC dI L kd tys fr_14 H.size g.2.2.2.1 q0_ mq0_ kq0_ 3 y0_ by0_ y1_ by1_ (g.fcts [6, 7] rfl)) (cwV 1 hts (gV_ t_1098 t_1099 t_1100 t_184 t_1101) rfl rfl rfl (by decide +kernel) ⟨(Nat.le_of_ble_eq_true rfl), (Nat.le_of_ble_eq_true rfl)⟩) (pre3V g hK mq0_ kq0_ (by decide) (q := (RX8, TX8, 10)) rfl) rfl rfl hl.1 rfl (lv_room (Nat.le_of_ble_eq_true rfl)) dX2_readThrow_35 ⟨(Nat.le_of_ble_eq_true rfl), (Nat.le_of_ble_eq_true rfl)⟩) g hK (by decide) (by decide) (fx' := [(7, 6, q1_, .int x_16), (7, 5, q1_, .ref a_12), (7, 4, q1_, .ref a_11), (7, 17, q1_, .int x_7), (2, 0, a0_, .ref q0_), (2, 3, a0_, .ref q1_), (8, 8, q0_, .int y1_)]) rfl (fun fr_19 H locs hp hMr_19 g => ?_)
  obtain ⟨x_20, h_21, hF_22⟩ := hp
  have hG_23 := dOK.frame hMr_19 go_.2.2.2.1 mq1_ kq1_ (by decide) (by decide) hG_15
  have g := g.more hF_22
  refine lv_aload_n hx hb dX2_readThrow_38 rfl (lv_at hl 0 rfl) ?_
  refine g_getk (C := RX2) (T := TX2) (N := 16) hx hb hts (mc_ inX2) hown hK g rfl 0 (by decide) rfl (hts _ (List.mem_cons_of_mem _ t_416)) (fun _ h9 => h9) 5 rfl dX2_readThrow_39 ?_
  refine lv_bipush (v := 59) hx hb dX2_readThrow_42 (by decide) ?_
  have go_ := g
  refine g_callv (va_runV (As := [.int 59]) (rest := []) ⟨hx, hb, hml, hown, hts⟩ (r_X8_take_2 l dC dI L kd tys fr_19 H.size g.2.2.2.1 q0_ mq0_ kq0_ 59 x_20 h_21 y1_ by1_ (g.fcts [0, 7] rfl)) (cwV 1 hts (gV_ t_1098 t_1099 t_1100 t_184 t_1101) rfl rfl rfl (by decide +kernel) ⟨(Nat.le_of_ble_eq_true rfl), (Nat.le_of_ble_eq_true rfl)⟩) (pre3V g hK mq0_ kq0_ (by decide) (q := (RX8, TX8, 10)) rfl) rfl rfl hl.1 rfl (lv_room (Nat.le_of_ble_eq_true rfl)) dX2_readThrow_44 ⟨(Nat.le_of_ble_eq_true rfl), (Nat.le_of_ble_eq_true rfl)⟩) g hK (by decide) (by decide) (fx' := [(7, 6, q1_, .int x_16), (7, 5, q1_, .ref a_12), (7, 4, q1_, .ref a_11), (7, 17, q1_, .int x_7), (2, 0, a0_, .ref q0_), (2, 3, a0_, .ref q1_), (8, 8, q0_, .int y1_)]) rfl (fun fr_24 H locs hp hMr_24 g => ?_)
  obtain ⟨x_25, h_26, hF_27⟩ := hp
  have hG_28 := dOK.frame hMr_24 go_.2.2.2.1 mq1_ kq1_ (by decide) (by decide) hG_23
  have g := g.more hF_27
  subst hQ
  exact W.vret hx hb hr (fun t ht hW => ⟨⟨_, rfl, ⟨hG_28, x_25, h_26, x_7, h_8, (g.fcts [0, 4] rfl)⟩, q3_of g hK ht hW⟩, g.2.2.1.F ht⟩) g.2.2.1.2.2 dX2_readThrow_47
set_option maxHeartbeats 4000000 in
set_option maxRecDepth 100000 in
theorem r_X2_findAbove (l : Launch) (dC : Nat → ClassId) (dI : Nat → Nat → Nat) (L : List Nat) (kd : Nat → Nat) (tys : List (ClassId × FieldType)) (f0 : Nat → va_E) (sz : Nat) (hWT : WT L kd tys f0) (a0_ : Nat) (ma0_ : a0_ ∈ L) (ka0_ : kd a0_ = 2) (q0_ : Nat) (mq0_ : q0_ ∈ L) (kq0_ : kd q0_ = 8) (q1_ : Nat) (mq1_ : q1_ ∈ L) (kq1_ : kd q1_ = 7) (q2_ : Nat) (mq2_ : q2_ ∈ L) (kq2_ : kd q2_ = 9) (y0_ : Int32) (by0_ : bd 1201 1201 y0_) (y1_ : Int32) (by1_ : bd 1 7 y1_) (hfx : Fs L kd f0 [(2, 0, a0_, .ref q0_), (2, 3, a0_, .ref q1_), (2, 4, a0_, .ref q2_), (8, 6, q0_, .int y0_), (8, 8, q0_, .int y1_)]) : Met l yX2_findAbove (.code yX2_findAbove cX2_findAbove 4 (some .boolean) :: lw_g) ({ frames := 2, cells := 0, slots := 0, locals := 44 }) (va_Pc [.ref a0_] (P3 (dC, dI) L tys f0 sz)) (va_Qi (fun (r : Int32) (f : Nat → va_E) => (r = 1 ∧ Fs L kd f [(8, 6, q0_, .int 1201)])) (Q3 (dC, dI) L kd tys [(8, 6)] [] f0 sz) (pA L sz)) 0 0 (pA L sz) := by
  refine Met.ofW (cc := cX2_findAbove) (maxL := 4) (ret := (some .boolean)) (by decide) rfl ?_
  intro p e s m args below meth c s₁ B hml hv
  obtain ⟨rfl, hsz, hP, hK, hD0⟩ := hv
  have hx := B.exec
  have hb := B.bytes
  have hr := B.returns
  have hts := atoms_spec (ws := (.code yX2_findAbove cX2_findAbove 4 (some .boolean) :: lw_g)) B.pre
  have hown : s.vm.findClass RX2 = some m.cls := findClass_of_methodNamed B.named
  have hlocks := B.notSynchronized
  subst hsz
  have g : G3 (dC, dI) L kd tys s f0 [(8, 6)] [] f0 s.heap [] [(2, 0, a0_, .ref q0_), (2, 3, a0_, .ref q1_), (2, 4, a0_, .ref q2_), (8, 6, q0_, .int y0_), (8, 8, q0_, .int y1_)] := G3.start hP hD0 hWT hfx
  have hl := lv_entry ([.ref a0_]) (n := 4) (Nat.le_of_ble_eq_true rfl)
  rw [lg_entry_eq]
  generalize (lg_sl ([.ref a0_]) ++ List.replicate (4 - (lg_sl ([.ref a0_])).length) Slot.unset).toArray = ls at hl ⊢
  have hl : lv_has ls 4 [(0, .ref a0_)] := hl
  refine W_q (fun Q hQ => ?_)
  refine lv_aload_n hx hb dX2_findAbove_0 rfl (lv_at hl 0 rfl) ?_
  refine g_getk (C := RX2) (T := TX2) (N := 16) hx hb hts (mc_ inX2) hown hK g rfl 0 (by decide) rfl (hts _ (List.mem_cons_of_mem _ t_416)) (fun _ h9 => h9) 0 rfl dX2_findAbove_1 ?_
  refine g_calli (va_runV (As := []) (rest := []) ⟨hx, hb, hml, hown, hts⟩ (r_X8_place l dC dI L kd tys f0 s.heap.size g.2.2.2.1 q0_ mq0_ kq0_) (cwV 0 hts (gV_ t_1110 t_1111 t_1112 t_184 t_1113) rfl rfl rfl (by decide +kernel) ⟨(Nat.le_of_ble_eq_true rfl), (Nat.le_of_ble_eq_true rfl)⟩) (pre3V g hK mq0_ kq0_ (by decide) (q := (RX8, TX8, 10)) rfl) rfl rfl hl.1 rfl (lv_room (Nat.le_of_ble_eq_true rfl)) dX2_findAbove_4 ⟨(Nat.le_of_ble_eq_true rfl), (Nat.le_of_ble_eq_true rfl)⟩) g hK (by decide) (by decide) (fx' := [(2, 0, a0_, .ref q0_), (2, 3, a0_, .ref q1_), (2, 4, a0_, .ref q2_), (8, 6, q0_, .int y0_), (8, 8, q0_, .int y1_)]) rfl (fun r_1 fr_1 H locs hp hMr_1 g => ?_)
  refine lv_istore_n (lv' := [(1, .int r_1), (0, .ref a0_)]) hx hb dX2_findAbove_7 rfl hl (by decide) rfl (fun ls hl => ?_)
  refine lv_aload_n hx hb dX2_findAbove_8 rfl (lv_at hl 1 rfl) ?_
  refine g_getk (C := RX2) (T := TX2) (N := 16) hx hb hts (mc_ inX2) hown hK g rfl 0 (by decide) rfl (hts _ (List.mem_cons_of_mem _ t_416)) (fun _ h9 => h9) 0 rfl dX2_findAbove_9 ?_
  refine g_callv (va_runV (As := []) (rest := []) ⟨hx, hb, hml, hown, hts⟩ (r_X8_next_2 l dC dI L kd tys fr_1 H.size g.2.2.2.1 q0_ mq0_ kq0_ y0_ by0_ (g.fcts [3] rfl)) (cwV 0 hts (gV_ t_1131 t_1103 t_1104 t_184 t_1105) rfl rfl rfl (by decide +kernel) ⟨(Nat.le_of_ble_eq_true rfl), (Nat.le_of_ble_eq_true rfl)⟩) (pre3V g hK mq0_ kq0_ (by decide) (q := (RX8, TX8, 10)) rfl) rfl rfl hl.1 rfl (lv_room (Nat.le_of_ble_eq_true rfl)) dX2_findAbove_12 ⟨(Nat.le_of_ble_eq_true rfl), (Nat.le_of_ble_eq_true rfl)⟩) g hK (by decide) (by decide) (fx' := [(2, 0, a0_, .ref q0_), (2, 3, a0_, .ref q1_), (2, 4, a0_, .ref q2_), (8, 6, q0_, .int y0_), (8, 8, q0_, .int y1_)]) rfl (fun fr_2 H locs hp hMr_2 g => ?_)
  refine lv_aload_n hx hb dX2_findAbove_15 rfl (lv_at hl 1 rfl) ?_
  refine g_getk (C := RX2) (T := TX2) (N := 16) hx hb hts (mc_ inX2) hown hK g rfl 3 (by decide) rfl (hts _ (List.mem_cons_of_mem _ t_419)) (fun _ h9 => h9) 1 rfl dX2_findAbove_16 ?_
  refine lv_aload_n hx hb dX2_findAbove_19 rfl (lv_at hl 1 rfl) ?_
  refine g_getk (C := RX2) (T := TX2) (N := 16) hx hb hts (mc_ inX2) hown hK g rfl 4 (by decide) rfl (hts _ (List.mem_cons_of_mem _ t_420)) (fun _ h9 => h9) 2 rfl dX2_findAbove_20 ?_
  refine g_geti (C := RX9) (T := TX9) (N := 13) hx hb hts (mc_ inX9) hown hK g mq2_ kq2_ (by decide) rfl 1 (by decide) rfl (hts _ (List.mem_cons_of_mem _ t_484)) (fun _ h9 => h9) rfl dX2_findAbove_23 (fun x_3 bx_3 g => ?_)
  refine g_calli (va_runV (As := [.int x_3]) (rest := []) ⟨hx, hb, hml, hown, hts⟩ (r_X7_hasClass l dC dI L kd tys fr_2 H.size g.2.2.2.1 q1_ mq1_ kq1_ x_3) (cwV 1 hts (gV_ t_1387 t_1281 t_1282 t_191 t_1283) rfl rfl rfl (by decide +kernel) ⟨(Nat.le_of_ble_eq_true rfl), (Nat.le_of_ble_eq_true rfl)⟩) (pre3V g hK mq1_ kq1_ (by decide) (q := (RX7, TX7, 19)) rfl) rfl rfl hl.1 rfl (lv_room (Nat.le_of_ble_eq_true rfl)) dX2_findAbove_26 ⟨(Nat.le_of_ble_eq_true rfl), (Nat.le_of_ble_eq_true rfl)⟩) g hK (by decide) (by decide) (fx' := [(9, 1, q2_, .int x_3), (2, 0, a0_, .ref q0_), (2, 3, a0_, .ref q1_), (2, 4, a0_, .ref q2_), (8, 6, q0_, .int y0_), (8, 8, q0_, .int y1_)]) rfl (fun r_4 fr_4 H locs hp hMr_4 g => ?_)
  rcases hp with ⟨h_5, -⟩ | ⟨h_6, h_7, x_8, h_9, hF_10⟩
  · obtain rfl : r_4 = 0 := h_5
    refine lv_if_ne (tgt := 43) hx hb dX2_findAbove_29 (by decide) (fun c_ => absurd c_ (by decide)) (fun c_ => ?_)
    refine lv_aload_n hx hb dX2_findAbove_32 rfl (lv_at hl 1 rfl) ?_
    refine g_getk (C := RX2) (T := TX2) (N := 16) hx hb hts (mc_ inX2) hown hK g rfl 0 (by decide) rfl (hts _ (List.mem_cons_of_mem _ t_416)) (fun _ h9 => h9) 1 rfl dX2_findAbove_33 ?_
    refine lv_iconst (v := 5) hx hb dX2_findAbove_36 (by decide) ?_
    refine lv_iload_n hx hb dX2_findAbove_37 rfl (lv_at hl 0 rfl) ?_
    have kb_5 : bd 5 5 (5 : Int32) := ⟨by decide, by decide⟩
    refine g_callv (va_runV (As := [.int 5, .int r_1]) (rest := []) ⟨hx, hb, hml, hown, hts⟩ (r_X8_fail_2 l dC dI L kd tys fr_4 H.size g.2.2.2.1 q0_ mq0_ kq0_ 5 (bd_sub kb_5 (by decide)) r_1 y1_ by1_ (g.fcts [5] rfl)) (cwV 2 hts (gV_ t_1122 t_1107 t_1108 t_184 t_1109) rfl rfl rfl (by decide +kernel) ⟨(Nat.le_of_ble_eq_true rfl), (Nat.le_of_ble_eq_true rfl)⟩) (pre3V g hK mq0_ kq0_ (by decide) (q := (RX8, TX8, 10)) rfl) rfl rfl hl.1 rfl (lv_room (Nat.le_of_ble_eq_true rfl)) dX2_findAbove_38 ⟨(Nat.le_of_ble_eq_true rfl), (Nat.le_of_ble_eq_true rfl)⟩) g hK (by decide) (by decide) (fx' := [(9, 1, q2_, .int x_3), (2, 0, a0_, .ref q0_), (2, 3, a0_, .ref q1_), (2, 4, a0_, .ref q2_), (8, 8, q0_, .int y1_)]) rfl (fun fr_11 H locs hp hMr_11 g => ?_)
    have hF_12 := hp
    have g := g.more hF_12
    refine lv_iconst (v := 1) hx hb dX2_findAbove_41 (by decide) ?_
    subst hQ
    have kb_1 : bd 1 1 (1 : Int32) := ⟨by decide, by decide⟩
    exact W.zret (v := 1) hx hb hr (nar_z (bd_sub kb_1 (by decide) : bd 0 1 _).1 (bd_sub kb_1 (by decide) : bd 0 1 _).2) (fun t ht hW => ⟨⟨_, _, rfl, ⟨rfl, (g.fcts [0] rfl)⟩, q3_of g hK ht hW⟩, g.2.2.1.F ht⟩) g.2.2.1.2.2 dX2_findAbove_42
  · obtain rfl : r_4 = 1 := h_6
    have b_13 : bd 0 7 x_3 := eqX rfl (bdT x_3) h_7 (by decide)
    have g := g.more hF_10
    refine lv_if_ne (tgt := 43) hx hb dX2_findAbove_29 (by decide) (fun c_ => ?_) (fun c_ => absurd c_ (by decide))
    refine lv_aload_n hx hb dX2_findAbove_43 rfl (lv_at hl 1 rfl) ?_
    refine g_getk (C := RX2) (T := TX2) (N := 16) hx hb hts (mc_ inX2) hown hK g rfl 3 (by decide) rfl (hts _ (List.mem_cons_of_mem _ t_419)) (fun _ h9 => h9) 3 rfl dX2_findAbove_44 ?_
    refine g_getr (K := 136) (C := RX7) (T := TX7) (N := 19) hx hb hts (mc_ inX7) hown hK g mq1_ kq1_ (by decide) rfl 0 (by decide) rfl (hts _ (List.mem_cons_of_mem _ t_621)) (fun _ h9 => h9) rfl dX2_findAbove_47 (fun a_14 ma_14 ka_14 g => ?_)
    refine lv_aload_n hx hb dX2_findAbove_50 rfl (lv_at hl 1 rfl) ?_
    refine g_getk (C := RX2) (T := TX2) (N := 16) hx hb hts (mc_ inX2) hown hK g rfl 4 (by decide) rfl (hts _ (List.mem_cons_of_mem _ t_420)) (fun _ h9 => h9) 5 rfl dX2_findAbove_51 ?_
    refine g_getk (C := RX9) (T := TX9) (N := 13) hx hb hts (mc_ inX9) hown hK g rfl 1 (by decide) rfl (hts _ (List.mem_cons_of_mem _ t_484)) (fun _ h9 => h9) 2 rfl dX2_findAbove_54 ?_
    refine g_aald hx hb hK g ma_14 ka_14 (by decide) rfl (by decide) (in_bd b_13 (by decide)) dX2_findAbove_57 (fun a_15 ma_15 ua_15 wa_15 => ?_)
    have ka_15 : kd a_15 = 9 := by omega
    refine lv_astore_n (lv' := [(2, .ref a_15), (1, .int r_1), (0, .ref a0_)]) hx hb dX2_findAbove_58 rfl hl (by decide) rfl (fun ls hl => ?_)
    refine lv_aload_n hx hb dX2_findAbove_59 rfl (lv_at hl 2 rfl) ?_
    refine g_getk (C := RX2) (T := TX2) (N := 16) hx hb hts (mc_ inX2) hown hK g rfl 0 (by decide) rfl (hts _ (List.mem_cons_of_mem _ t_416)) (fun _ h9 => h9) 3 rfl dX2_findAbove_60 ?_
    refine lv_bipush (v := 46) hx hb dX2_findAbove_63 (by decide) ?_
    refine g_callv (va_runV (As := [.int 46]) (rest := []) ⟨hx, hb, hml, hown, hts⟩ (r_X8_take_2 l dC dI L kd tys fr_4 H.size g.2.2.2.1 q0_ mq0_ kq0_ 46 y0_ by0_ y1_ by1_ (g.fcts [6, 7] rfl)) (cwV 1 hts (gV_ t_1098 t_1099 t_1100 t_184 t_1101) rfl rfl rfl (by decide +kernel) ⟨(Nat.le_of_ble_eq_true rfl), (Nat.le_of_ble_eq_true rfl)⟩) (pre3V g hK mq0_ kq0_ (by decide) (q := (RX8, TX8, 10)) rfl) rfl rfl hl.1 rfl (lv_room (Nat.le_of_ble_eq_true rfl)) dX2_findAbove_65 ⟨(Nat.le_of_ble_eq_true rfl), (Nat.le_of_ble_eq_true rfl)⟩) g hK (by decide) (by decide) (fx' := [(7, 0, q1_, .ref a_14), (7, 1, q1_, .int x_8), (9, 1, q2_, .int x_3), (2, 0, a0_, .ref q0_), (2, 3, a0_, .ref q1_), (2, 4, a0_, .ref q2_), (8, 8, q0_, .int y1_)]) rfl (fun fr_16 H locs hp hMr_16 g => ?_)
    obtain ⟨x_17, h_18, hF_19⟩ := hp
    have g := g.more hF_19
    refine lv_aload_n hx hb dX2_findAbove_68 rfl (lv_at hl 2 rfl) ?_
    refine g_getk (C := RX2) (T := TX2) (N := 16) hx hb hts (mc_ inX2) hown hK g rfl 3 (by decide) rfl (hts _ (List.mem_cons_of_mem _ t_419)) (fun _ h9 => h9) 5 rfl dX2_findAbove_69 ?_
    refine lv_aload_n hx hb dX2_findAbove_72 rfl (lv_at hl 0 rfl) ?_
    refine lv_aload_n hx hb dX2_findAbove_73 rfl (lv_at hl 2 rfl) ?_
    refine g_getk (C := RX2) (T := TX2) (N := 16) hx hb hts (mc_ inX2) hown hK g rfl 0 (by decide) rfl (hts _ (List.mem_cons_of_mem _ t_416)) (fun _ h9 => h9) 4 rfl dX2_findAbove_74 ?_
    refine g_calll (va_runV (As := []) (rest := [.ref a_15, .ref q1_]) ⟨hx, hb, hml, hown, hts⟩ (r_X8_value l dC dI L kd tys fr_16 H.size g.2.2.2.1 q0_ mq0_ kq0_) (cwV 0 hts (gV_ t_1114 t_1115 t_1116 t_184 t_1117) rfl rfl rfl (by decide +kernel) ⟨(Nat.le_of_ble_eq_true rfl), (Nat.le_of_ble_eq_true rfl)⟩) (pre3V g hK mq0_ kq0_ (by decide) (q := (RX8, TX8, 10)) rfl) rfl rfl hl.1 rfl (lv_room (Nat.le_of_ble_eq_true rfl)) dX2_findAbove_77 ⟨(Nat.le_of_ble_eq_true rfl), (Nat.le_of_ble_eq_true rfl)⟩) g hK (by decide) (by decide) (fx' := [(8, 6, q0_, .int x_17), (7, 0, q1_, .ref a_14), (7, 1, q1_, .int x_8), (9, 1, q2_, .int x_3), (2, 0, a0_, .ref q0_), (2, 3, a0_, .ref q1_), (2, 4, a0_, .ref q2_), (8, 8, q0_, .int y1_)]) rfl (fun r_20 fr_20 H locs hp hMr_20 g => ?_)
    refine g_calli (va_runV (As := [.ref a_15, .long r_20]) (rest := []) ⟨hx, hb, hml, hown, hts⟩ (r_X7_memberNamed l dC dI L kd tys fr_20 H.size g.2.2.2.1 q1_ mq1_ kq1_ a_15 ma_15 ka_15 r_20) (cwV 2 hts (gV_ t_1306 t_1244 t_1245 t_191 t_1246) rfl rfl rfl (by decide +kernel) ⟨(Nat.le_of_ble_eq_true rfl), (Nat.le_of_ble_eq_true rfl)⟩) (pre3V g hK mq1_ kq1_ (by decide) (q := (RX7, TX7, 19)) rfl) rfl rfl hl.1 rfl (lv_room (Nat.le_of_ble_eq_true rfl)) dX2_findAbove_80 ⟨(Nat.le_of_ble_eq_true rfl), (Nat.le_of_ble_eq_true rfl)⟩) g hK (by decide) (by decide) (fx' := [(8, 6, q0_, .int x_17), (7, 0, q1_, .ref a_14), (7, 1, q1_, .int x_8), (9, 1, q2_, .int x_3), (2, 0, a0_, .ref q0_), (2, 3, a0_, .ref q1_), (2, 4, a0_, .ref q2_), (8, 8, q0_, .int y1_)]) rfl (fun r_21 fr_21 H locs hp hMr_21 g => ?_)
    obtain ⟨h_22, -⟩ := hp
    refine lv_istore_n (lv' := [(3, .int r_21), (2, .ref a_15), (1, .int r_1), (0, .ref a0_)]) hx hb dX2_findAbove_83 rfl hl (by decide) rfl (fun ls hl => ?_)
    refine lv_aload_n hx hb dX2_findAbove_84 rfl (lv_at hl 3 rfl) ?_
    refine g_getk (C := RX2) (T := TX2) (N := 16) hx hb hts (mc_ inX2) hown hK g rfl 0 (by decide) rfl (hts _ (List.mem_cons_of_mem _ t_416)) (fun _ h9 => h9) 4 rfl dX2_findAbove_85 ?_
    refine g_calli (va_runV (As := []) (rest := []) ⟨hx, hb, hml, hown, hts⟩ (r_X8_kind_2 l dC dI L kd tys fr_21 H.size g.2.2.2.1 q0_ mq0_ kq0_ x_17 h_18 (g.fcts [0] rfl)) (cwV 0 hts (gV_ t_1118 t_1119 t_1120 t_184 t_1121) rfl rfl rfl (by decide +kernel) ⟨(Nat.le_of_ble_eq_true rfl), (Nat.le_of_ble_eq_true rfl)⟩) (pre3V g hK mq0_ kq0_ (by decide) (q := (RX8, TX8, 10)) rfl) rfl rfl hl.1 rfl (lv_room (Nat.le_of_ble_eq_true rfl)) dX2_findAbove_88 ⟨(Nat.le_of_ble_eq_true rfl), (Nat.le_of_ble_eq_true rfl)⟩) g hK (by decide) (by decide) (fx' := [(8, 6, q0_, .int x_17), (7, 0, q1_, .ref a_14), (7, 1, q1_, .int x_8), (9, 1, q2_, .int x_3), (2, 0, a0_, .ref q0_), (2, 3, a0_, .ref q1_), (2, 4, a0_, .ref q2_), (8, 8, q0_, .int y1_)]) rfl (fun r_23 fr_23 H locs hp hMr_23 g => ?_)
    obtain ⟨h_24, -⟩ := hp
    obtain rfl : r_23 = 0 := h_24
    refine lv_iconst (v := 3) hx hb dX2_findAbove_91 (by decide) ?_
    refine lv_icmp_eq (tgt := 113) hx hb dX2_findAbove_92 (by decide) (fun c_ => absurd c_ (by decide)) (fun c_ => ?_)
    refine lv_aload_n hx hb dX2_findAbove_95 rfl (lv_at hl 3 rfl) ?_
    refine g_getk (C := RX2) (T := TX2) (N := 16) hx hb hts (mc_ inX2) hown hK g rfl 0 (by decide) rfl (hts _ (List.mem_cons_of_mem _ t_416)) (fun _ h9 => h9) 4 rfl dX2_findAbove_96 ?_
    refine lv_iconst (v := 1) hx hb dX2_findAbove_99 (by decide) ?_
    refine lv_aload_n hx hb dX2_findAbove_100 rfl (lv_at hl 3 rfl) ?_
    refine g_getk (C := RX2) (T := TX2) (N := 16) hx hb hts (mc_ inX2) hown hK g rfl 0 (by decide) rfl (hts _ (List.mem_cons_of_mem _ t_416)) (fun _ h9 => h9) 4 rfl dX2_findAbove_101 ?_
    refine g_calli (va_runV (As := []) (rest := [.int 1, .ref q0_]) ⟨hx, hb, hml, hown, hts⟩ (r_X8_place l dC dI L kd tys fr_23 H.size g.2.2.2.1 q0_ mq0_ kq0_) (cwV 0 hts (gV_ t_1110 t_1111 t_1112 t_184 t_1113) rfl rfl rfl (by decide +kernel) ⟨(Nat.le_of_ble_eq_true rfl), (Nat.le_of_ble_eq_true rfl)⟩) (pre3V g hK mq0_ kq0_ (by decide) (q := (RX8, TX8, 10)) rfl) rfl rfl hl.1 rfl (lv_room (Nat.le_of_ble_eq_true rfl)) dX2_findAbove_104 ⟨(Nat.le_of_ble_eq_true rfl), (Nat.le_of_ble_eq_true rfl)⟩) g hK (by decide) (by decide) (fx' := [(8, 6, q0_, .int x_17), (7, 0, q1_, .ref a_14), (7, 1, q1_, .int x_8), (9, 1, q2_, .int x_3), (2, 0, a0_, .ref q0_), (2, 3, a0_, .ref q1_), (2, 4, a0_, .ref q2_), (8, 8, q0_, .int y1_)]) rfl (fun r_25 fr_25 H locs hp hMr_25 g => ?_)
    have kb_1 : bd 1 1 (1 : Int32) := ⟨by decide, by decide⟩
    refine g_callv (va_runV (As := [.int 1, .int r_25]) (rest := []) ⟨hx, hb, hml, hown, hts⟩ (r_X8_fail_2 l dC dI L kd tys fr_25 H.size g.2.2.2.1 q0_ mq0_ kq0_ 1 (bd_sub kb_1 (by decide)) r_25 y1_ by1_ (g.fcts [7] rfl)) (cwV 2 hts (gV_ t_1122 t_1107 t_1108 t_184 t_1109) rfl rfl rfl (by decide +kernel) ⟨(Nat.le_of_ble_eq_true rfl), (Nat.le_of_ble_eq_true rfl)⟩) (pre3V g hK mq0_ kq0_ (by decide) (q := (RX8, TX8, 10)) rfl) rfl rfl hl.1 rfl (lv_room (Nat.le_of_ble_eq_true rfl)) dX2_findAbove_107 ⟨(Nat.le_of_ble_eq_true rfl), (Nat.le_of_ble_eq_true rfl)⟩) g hK (by decide) (by decide) (fx' := [(7, 0, q1_, .ref a_14), (7, 1, q1_, .int x_8), (9, 1, q2_, .int x_3), (2, 0, a0_, .ref q0_), (2, 3, a0_, .ref q1_), (2, 4, a0_, .ref q2_), (8, 8, q0_, .int y1_)]) rfl (fun fr_26 H locs hp hMr_26 g => ?_)
    have hF_27 := hp
    have g := g.more hF_27
    refine lv_goto (tgt := 171) hx hb dX2_findAbove_110 (by decide) ?_
    refine lv_aload_n hx hb dX2_findAbove_171 rfl (lv_at hl 3 rfl) ?_
    refine g_getk (C := RX2) (T := TX2) (N := 16) hx hb hts (mc_ inX2) hown hK g rfl 0 (by decide) rfl (hts _ (List.mem_cons_of_mem _ t_416)) (fun _ h9 => h9) 4 rfl dX2_findAbove_172 ?_
    have kb_1201 : bd 1201 1201 (1201 : Int32) := ⟨by decide, by decide⟩
    refine g_callv (va_runV (As := []) (rest := []) ⟨hx, hb, hml, hown, hts⟩ (r_X8_next_2 l dC dI L kd tys fr_26 H.size g.2.2.2.1 q0_ mq0_ kq0_ 1201 kb_1201 (g.fcts [0] rfl)) (cwV 0 hts (gV_ t_1131 t_1103 t_1104 t_184 t_1105) rfl rfl rfl (by decide +kernel) ⟨(Nat.le_of_ble_eq_true rfl), (Nat.le_of_ble_eq_true rfl)⟩) (pre3V g hK mq0_ kq0_ (by decide) (q := (RX8, TX8, 10)) rfl) rfl rfl hl.1 rfl (lv_room (Nat.le_of_ble_eq_true rfl)) dX2_findAbove_175 ⟨(Nat.le_of_ble_eq_true rfl), (Nat.le_of_ble_eq_true rfl)⟩) g hK (by decide) (by decide) (fx' := [(8, 6, q0_, .int 1201), (7, 0, q1_, .ref a_14), (7, 1, q1_, .int x_8), (9, 1, q2_, .int x_3), (2, 0, a0_, .ref q0_), (2, 3, a0_, .ref q1_), (2, 4, a0_, .ref q2_), (8, 8, q0_, .int y1_)]) rfl (fun fr_28 H locs hp hMr_28 g => ?_)
    refine lv_iconst (v := 1) hx hb dX2_findAbove_178 (by decide) ?_
    subst hQ
    exact W.zret (v := 1) hx hb hr (nar_z (bd_sub kb_1 (by decide) : bd 0 1 _).1 (bd_sub kb_1 (by decide) : bd 0 1 _).2) (fun t ht hW => ⟨⟨_, _, rfl, ⟨rfl, (g.fcts [0] rfl)⟩, q3_of g hK ht hW⟩, g.2.2.1.F ht⟩) g.2.2.1.2.2 dX2_findAbove_179
