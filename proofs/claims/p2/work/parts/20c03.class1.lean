set_option maxHeartbeats 4000000 in
set_option maxRecDepth 100000 in
theorem r_X0_readName (l : Launch) (dC : Nat → ClassId) (dI : Nat → Nat → Nat) (L : List Nat) (kd : Nat → Nat) (tys : List (ClassId × FieldType)) (f0 : Nat → va_E) (sz : Nat) (hWT : WT L kd tys f0) (a0_ : Nat) (ma0_ : a0_ ∈ L) (ka0_ : kd a0_ = 0) (q0_ : Nat) (mq0_ : q0_ ∈ L) (kq0_ : kd q0_ = 8) (q1_ : Nat) (mq1_ : q1_ ∈ L) (kq1_ : kd q1_ = 5) (q2_ : Nat) (mq2_ : q2_ ∈ L) (kq2_ : kd q2_ = 7) (q3_ : Nat) (mq3_ : q3_ ∈ L) (kq3_ : kd q3_ = 9) (hfx : Fs L kd f0 [(0, 0, a0_, .ref q0_), (0, 1, a0_, .ref q1_), (0, 2, a0_, .ref q2_), (5, 1, q1_, .ref q3_)]) : Met l yX0_readName (.code yX0_readName cX0_readName 6 none :: lw_g) ({ frames := 2, cells := 0, slots := 0, locals := 50 }) (va_Pc [.ref a0_] (P3 (dC, dI) L tys f0 sz)) (va_Qv (fun (f : Nat → va_E) => (∃ z0_ : Int32, bd 1201 1201 z0_ ∧ ∃ z1_ : Int32, bd 1 7 z1_ ∧ Fs L kd f [(8, 6, q0_, .int z0_), (8, 8, q0_, .int z1_)]) ∨ (∃ z0_ : Int32, bd 1 1201 z0_ ∧ Fs L kd f [(8, 6, q0_, .int z0_)])) (Q3 (dC, dI) L kd tys [(0, 8), (0, 10), (0, 11), (0, 12), (7, 6), (7, 18), (8, 6), (8, 8), (8, 9)] [110, 111, 112, 113, 114, 115, 138, 139] f0 sz) (pA L sz)) 0 0 (pA L sz) := by
  refine Met.ofW (cc := cX0_readName) (maxL := 6) (ret := none) (by decide) rfl ?_
  intro p e s m args below meth c s₁ B hml hv
  obtain ⟨rfl, hsz, hP, hK, hD0⟩ := hv
  have hx := B.exec
  have hb := B.bytes
  have hr := B.returns
  have hts := atoms_spec (ws := (.code yX0_readName cX0_readName 6 none :: lw_g)) B.pre
  have hown : s.vm.findClass RX0 = some m.cls := findClass_of_methodNamed B.named
  have hlocks := B.notSynchronized
  subst hsz
  have g : G3 (dC, dI) L kd tys s f0 [(0, 8), (0, 10), (0, 11), (0, 12), (7, 6), (7, 18), (8, 6), (8, 8), (8, 9)] [110, 111, 112, 113, 114, 115, 138, 139] f0 s.heap [] [(0, 0, a0_, .ref q0_), (0, 1, a0_, .ref q1_), (0, 2, a0_, .ref q2_), (5, 1, q1_, .ref q3_)] := G3.start hP hD0 hWT hfx
  have hl := lv_entry ([.ref a0_]) (n := 6) (Nat.le_of_ble_eq_true rfl)
  rw [lg_entry_eq]
  generalize (lg_sl ([.ref a0_]) ++ List.replicate (6 - (lg_sl ([.ref a0_])).length) Slot.unset).toArray = ls at hl ⊢
  have hl : lv_has ls 6 [(0, .ref a0_)] := hl
  refine W_q (fun Q hQ => ?_)
  refine lv_aload_n hx hb dX0_readName_0 rfl (lv_at hl 0 rfl) ?_
  refine g_getk (C := RX0) (T := TX0) (N := 14) hx hb hts (mc_ inX0) hown hK g rfl 0 (by decide) rfl (hts _ (List.mem_cons_of_mem _ t_373)) (fun _ h9 => h9) 0 rfl dX0_readName_1 ?_
  refine g_calll (va_runV (As := []) (rest := []) ⟨hx, hb, hml, hown, hts⟩ (r_X8_value l dC dI L kd tys f0 s.heap.size g.2.2.2.1 q0_ mq0_ kq0_) (cwV 0 hts (gV_ t_1238 t_1115 t_1116 t_184 t_1117) rfl rfl rfl (by decide +kernel) ⟨(Nat.le_of_ble_eq_true rfl), (Nat.le_of_ble_eq_true rfl)⟩) (pre3V g hK mq0_ kq0_ (by decide) (q := (RX8, TX8, 10)) rfl) rfl rfl hl.1 rfl (lv_room (Nat.le_of_ble_eq_true rfl)) dX0_readName_4 ⟨(Nat.le_of_ble_eq_true rfl), (Nat.le_of_ble_eq_true rfl)⟩) g hK (by decide) (by decide) (fx' := [(0, 0, a0_, .ref q0_), (0, 1, a0_, .ref q1_), (0, 2, a0_, .ref q2_), (5, 1, q1_, .ref q3_)]) rfl (fun r_1 fr_1 H locs hp hMr_1 g => ?_)
  refine lv_lstore_n (lv' := [(1, .long r_1), (0, .ref a0_)]) hx hb dX0_readName_7 rfl hl (by decide) rfl (fun ls hl => ?_)
  refine lv_aload_n hx hb dX0_readName_8 rfl (lv_at hl 1 rfl) ?_
  refine g_getk (C := RX0) (T := TX0) (N := 14) hx hb hts (mc_ inX0) hown hK g rfl 0 (by decide) rfl (hts _ (List.mem_cons_of_mem _ t_373)) (fun _ h9 => h9) 0 rfl dX0_readName_9 ?_
  refine g_calli (va_runV (As := []) (rest := []) ⟨hx, hb, hml, hown, hts⟩ (r_X8_place l dC dI L kd tys fr_1 H.size g.2.2.2.1 q0_ mq0_ kq0_) (cwV 0 hts (gV_ t_1220 t_1111 t_1112 t_184 t_1113) rfl rfl rfl (by decide +kernel) ⟨(Nat.le_of_ble_eq_true rfl), (Nat.le_of_ble_eq_true rfl)⟩) (pre3V g hK mq0_ kq0_ (by decide) (q := (RX8, TX8, 10)) rfl) rfl rfl hl.1 rfl (lv_room (Nat.le_of_ble_eq_true rfl)) dX0_readName_12 ⟨(Nat.le_of_ble_eq_true rfl), (Nat.le_of_ble_eq_true rfl)⟩) g hK (by decide) (by decide) (fx' := [(0, 0, a0_, .ref q0_), (0, 1, a0_, .ref q1_), (0, 2, a0_, .ref q2_), (5, 1, q1_, .ref q3_)]) rfl (fun r_2 fr_2 H locs hp hMr_2 g => ?_)
  refine lv_istore_n (lv' := [(3, .int r_2), (1, .long r_1), (0, .ref a0_)]) hx hb dX0_readName_15 rfl hl (by decide) rfl (fun ls hl => ?_)
  refine lv_aload_n hx hb dX0_readName_16 rfl (lv_at hl 2 rfl) ?_
  refine g_getk (C := RX0) (T := TX0) (N := 14) hx hb hts (mc_ inX0) hown hK g rfl 0 (by decide) rfl (hts _ (List.mem_cons_of_mem _ t_373)) (fun _ h9 => h9) 0 rfl dX0_readName_17 ?_
  refine g_callv (va_runV (As := []) (rest := []) ⟨hx, hb, hml, hown, hts⟩ (r_X8_next l dC dI L kd tys fr_2 H.size g.2.2.2.1 q0_ mq0_ kq0_) (cwV 0 hts (gV_ t_1225 t_1103 t_1104 t_184 t_1105) rfl rfl rfl (by decide +kernel) ⟨(Nat.le_of_ble_eq_true rfl), (Nat.le_of_ble_eq_true rfl)⟩) (pre3V g hK mq0_ kq0_ (by decide) (q := (RX8, TX8, 10)) rfl) rfl rfl hl.1 rfl (lv_room (Nat.le_of_ble_eq_true rfl)) dX0_readName_20 ⟨(Nat.le_of_ble_eq_true rfl), (Nat.le_of_ble_eq_true rfl)⟩) g hK (by decide) (by decide) (fx' := [(0, 0, a0_, .ref q0_), (0, 1, a0_, .ref q1_), (0, 2, a0_, .ref q2_), (5, 1, q1_, .ref q3_)]) rfl (fun fr_3 H locs hp hMr_3 g => ?_)
  obtain ⟨x_4, h_5, hF_6⟩ := hp
  have g := g.more hF_6
  refine lv_aload_n hx hb dX0_readName_23 rfl (lv_at hl 2 rfl) ?_
  refine g_getk (C := RX0) (T := TX0) (N := 14) hx hb hts (mc_ inX0) hown hK g rfl 0 (by decide) rfl (hts _ (List.mem_cons_of_mem _ t_373)) (fun _ h9 => h9) 1 rfl dX0_readName_24 ?_
  refine g_calli (va_runV (As := []) (rest := []) ⟨hx, hb, hml, hown, hts⟩ (r_X8_atBracket l dC dI L kd tys fr_3 H.size g.2.2.2.1 q0_ mq0_ kq0_) (cwV 0 hts (gV_ t_1239 t_1240 t_1241 t_184 t_1242) rfl rfl rfl (by decide +kernel) ⟨(Nat.le_of_ble_eq_true rfl), (Nat.le_of_ble_eq_true rfl)⟩) (pre3V g hK mq0_ kq0_ (by decide) (q := (RX8, TX8, 10)) rfl) rfl rfl hl.1 rfl (lv_room (Nat.le_of_ble_eq_true rfl)) dX0_readName_27 ⟨(Nat.le_of_ble_eq_true rfl), (Nat.le_of_ble_eq_true rfl)⟩) g hK (by decide) (by decide) (fx' := [(8, 6, q0_, .int x_4), (0, 0, a0_, .ref q0_), (0, 1, a0_, .ref q1_), (0, 2, a0_, .ref q2_), (5, 1, q1_, .ref q3_)]) rfl (fun r_7 fr_7 H locs hp hMr_7 g => ?_)
  obtain ⟨h_8, -⟩ := hp
  have kb_0 : bd 0 0 (0 : Int32) := ⟨by decide, by decide⟩
  refine lv_if_eq (tgt := 130) hx hb dX0_readName_30 (by decide) (fun c_9 => ?_) (fun c_9 => ?_)
  · have fc_9 := eq_f c_9
    have b_10 : bd 0 0 r_7 := eqX fc_9 h_8 kb_0 (by decide)
    refine lv_aload_n hx hb dX0_readName_130 rfl (lv_at hl 2 rfl) ?_
    refine g_getk (C := RX0) (T := TX0) (N := 14) hx hb hts (mc_ inX0) hown hK g rfl 1 (by decide) rfl (hts _ (List.mem_cons_of_mem _ t_374)) (fun _ h9 => h9) 2 rfl dX0_readName_131 ?_
    refine lv_lload_n hx hb dX0_readName_134 rfl (lv_at hl 1 rfl) ?_
    refine g_calli (va_runV (As := [.long r_1]) (rest := []) ⟨hx, hb, hml, hown, hts⟩ (r_X5_placeNamed l dC dI L kd tys fr_7 H.size g.2.2.2.1 q1_ mq1_ kq1_ r_1 q3_ mq3_ kq3_ (g.fcts [4] rfl)) (cwV 1 hts (gV_ t_1251 t_1252 t_1253 t_189 t_1254) rfl rfl rfl (by decide +kernel) ⟨(Nat.le_of_ble_eq_true rfl), (Nat.le_of_ble_eq_true rfl)⟩) (pre3V g hK mq1_ kq1_ (by decide) (q := (RX5, TX5, 9)) rfl) rfl rfl hl.1 rfl (lv_room (Nat.le_of_ble_eq_true rfl)) dX0_readName_135 ⟨(Nat.le_of_ble_eq_true rfl), (Nat.le_of_ble_eq_true rfl)⟩) g hK (by decide) (by decide) (fx' := [(8, 6, q0_, .int x_4), (0, 0, a0_, .ref q0_), (0, 1, a0_, .ref q1_), (0, 2, a0_, .ref q2_), (5, 1, q1_, .ref q3_)]) rfl (fun r_11 fr_11 H locs hp hMr_11 g => ?_)
    obtain ⟨h_12, -⟩ := hp
    refine lv_istore (lv' := [(4, .int r_11), (3, .int r_2), (1, .long r_1), (0, .ref a0_)]) hx hb dX0_readName_138 hl (by decide) rfl (fun ls hl => ?_)
    refine lv_iload hx hb dX0_readName_140 (lv_at hl 0 rfl) ?_
    refine lv_iconst (v := (-1)) hx hb dX0_readName_142 (by decide) ?_
    have kb_m1 : bd (-1) (-1) ((-1) : Int32) := ⟨by decide, by decide⟩
    refine lv_icmp_ne (tgt := 156) hx hb dX0_readName_143 (by decide) (fun c_13 => ?_) (fun c_13 => ?_)
    · have fc_13 := neq_f c_13
      have b_14 : bd 0 26 r_11 := neX fc_13 h_12 kb_m1 (by decide)
      refine lv_aload_n hx hb dX0_readName_156 rfl (lv_at hl 3 rfl) ?_
      refine g_getk (C := RX0) (T := TX0) (N := 14) hx hb hts (mc_ inX0) hown hK g rfl 2 (by decide) rfl (hts _ (List.mem_cons_of_mem _ t_375)) (fun _ h9 => h9) 3 rfl dX0_readName_157 ?_
      refine lv_dup hx hb dX0_readName_160 rfl ?_
      refine g_geti (C := RX7) (T := TX7) (N := 19) hx hb hts (mc_ inX7) hown hK g mq2_ kq2_ (by decide) rfl 18 (by decide) rfl (hts _ (List.mem_cons_of_mem _ t_681)) (fun _ h9 => h9) rfl dX0_readName_161 (fun x_15 bx_15 g => ?_)
      refine lv_iconst (v := 1) hx hb dX0_readName_164 (by decide) ?_
      have kb_1 : bd 1 1 (1 : Int32) := ⟨by decide, by decide⟩
      refine lv_iadd hx hb dX0_readName_165 ?_
      refine lv_topi (fun y_16 ey_16 => ?_)
      refine g_put (C := RX7) (T := TX7) (N := 19) hx hb hts (mc_ inX7) tyX7 tyX7_ok nmX7 hown hK g mq2_ kq2_ (by decide) rfl 18 (by decide) (hts _ (List.mem_cons_of_mem _ t_681)) (fun _ h9 => h9) rfl rfl (okV_i (bdT y_16)) rfl rfl (by decide) (Or.inr (Or.inl (by decide))) (fx' := [(8, 6, q0_, .int x_4), (0, 0, a0_, .ref q0_), (0, 1, a0_, .ref q1_), (0, 2, a0_, .ref q2_), (5, 1, q1_, .ref q3_)]) rfl dX0_readName_166 (fun f H locs hM_17 g => ?_)
      refine lv_aload_n hx hb dX0_readName_169 rfl (lv_at hl 3 rfl) ?_
      refine g_getk (C := RX0) (T := TX0) (N := 14) hx hb hts (mc_ inX0) hown hK g rfl 1 (by decide) rfl (hts _ (List.mem_cons_of_mem _ t_374)) (fun _ h9 => h9) 3 rfl dX0_readName_170 ?_
      refine g_getk (C := RX5) (T := TX5) (N := 9) hx hb hts (mc_ inX5) hown hK g rfl 1 (by decide) rfl (hts _ (List.mem_cons_of_mem _ t_332)) (fun _ h9 => h9) 5 rfl dX0_readName_173 ?_
      refine lv_iload hx hb dX0_readName_176 (lv_at hl 0 rfl) ?_
      refine g_calli (va_runV (As := [.int r_11]) (rest := []) ⟨hx, hb, hml, hown, hts⟩ (r_X9_isRow l dC dI L kd tys f H.size g.2.2.2.1 q3_ mq3_ kq3_ r_11) (cwV 1 hts (gV_ t_1256 t_1257 t_1258 t_192 t_1259) rfl rfl rfl (by decide +kernel) ⟨(Nat.le_of_ble_eq_true rfl), (Nat.le_of_ble_eq_true rfl)⟩) (pre3V g hK mq3_ kq3_ (by decide) (q := (RX9, TX9, 13)) rfl) rfl rfl hl.1 rfl (lv_room (Nat.le_of_ble_eq_true rfl)) dX0_readName_178 ⟨(Nat.le_of_ble_eq_true rfl), (Nat.le_of_ble_eq_true rfl)⟩) g hK (by decide) (by decide) (fx' := [(7, 18, q2_, .int y_16), (8, 6, q0_, .int x_4), (0, 0, a0_, .ref q0_), (0, 1, a0_, .ref q1_), (0, 2, a0_, .ref q2_), (5, 1, q1_, .ref q3_)]) rfl (fun r_18 fr_18 H locs hp hMr_18 g => ?_)
      rcases hp with ⟨h_19, -⟩ | ⟨h_20, h_21, x_22, h_23, hF_24⟩
      · obtain rfl : r_18 = 0 := h_19
        refine lv_aload_n hx hb dX0_readName_181 rfl (lv_at hl 3 rfl) ?_
        refine g_getk (C := RX0) (T := TX0) (N := 14) hx hb hts (mc_ inX0) hown hK g rfl 0 (by decide) rfl (hts _ (List.mem_cons_of_mem _ t_373)) (fun _ h9 => h9) 2 rfl dX0_readName_182 ?_
        refine g_calli (va_runV (As := []) (rest := [.int 0]) ⟨hx, hb, hml, hown, hts⟩ (r_X8_kind l dC dI L kd tys fr_18 H.size g.2.2.2.1 q0_ mq0_ kq0_) (cwV 0 hts (gV_ t_1186 t_1119 t_1120 t_184 t_1121) rfl rfl rfl (by decide +kernel) ⟨(Nat.le_of_ble_eq_true rfl), (Nat.le_of_ble_eq_true rfl)⟩) (pre3V g hK mq0_ kq0_ (by decide) (q := (RX8, TX8, 10)) rfl) rfl rfl hl.1 rfl (lv_room (Nat.le_of_ble_eq_true rfl)) dX0_readName_185 ⟨(Nat.le_of_ble_eq_true rfl), (Nat.le_of_ble_eq_true rfl)⟩) g hK (by decide) (by decide) (fx' := [(7, 18, q2_, .int y_16), (8, 6, q0_, .int x_4), (0, 0, a0_, .ref q0_), (0, 1, a0_, .ref q1_), (0, 2, a0_, .ref q2_), (5, 1, q1_, .ref q3_)]) rfl (fun r_25 fr_25 H locs hp hMr_25 g => ?_)
        refine lv_bipush (v := 91) hx hb dX0_readName_188 (by decide) ?_
        have kb_91 : bd 91 91 (91 : Int32) := ⟨by decide, by decide⟩
        refine lv_icmp_ne (tgt := 197) hx hb dX0_readName_190 (by decide) (fun c_26 => ?_) (fun c_26 => ?_)
        · have fc_26 := neq_f c_26
          refine lv_iconst (v := 0) hx hb dX0_readName_197 (by decide) ?_
          refine lv_icmp_eq (tgt := 213) hx hb dX0_readName_198 (by decide) (fun c_ => ?_) (fun c_ => absurd (by decide) c_)
          refine lv_aload_n hx hb dX0_readName_213 rfl (lv_at hl 3 rfl) ?_
          refine g_getk (C := RX0) (T := TX0) (N := 14) hx hb hts (mc_ inX0) hown hK g rfl 1 (by decide) rfl (hts _ (List.mem_cons_of_mem _ t_374)) (fun _ h9 => h9) 3 rfl dX0_readName_214 ?_
          refine g_getk (C := RX5) (T := TX5) (N := 9) hx hb hts (mc_ inX5) hown hK g rfl 1 (by decide) rfl (hts _ (List.mem_cons_of_mem _ t_332)) (fun _ h9 => h9) 5 rfl dX0_readName_217 ?_
          refine lv_iload hx hb dX0_readName_220 (lv_at hl 0 rfl) ?_
          refine g_calli (va_runV (As := [.int r_11]) (rest := []) ⟨hx, hb, hml, hown, hts⟩ (r_X9_isRow l dC dI L kd tys fr_25 H.size g.2.2.2.1 q3_ mq3_ kq3_ r_11) (cwV 1 hts (gV_ t_1256 t_1257 t_1258 t_192 t_1259) rfl rfl rfl (by decide +kernel) ⟨(Nat.le_of_ble_eq_true rfl), (Nat.le_of_ble_eq_true rfl)⟩) (pre3V g hK mq3_ kq3_ (by decide) (q := (RX9, TX9, 13)) rfl) rfl rfl hl.1 rfl (lv_room (Nat.le_of_ble_eq_true rfl)) dX0_readName_222 ⟨(Nat.le_of_ble_eq_true rfl), (Nat.le_of_ble_eq_true rfl)⟩) g hK (by decide) (by decide) (fx' := [(7, 18, q2_, .int y_16), (8, 6, q0_, .int x_4), (0, 0, a0_, .ref q0_), (0, 1, a0_, .ref q1_), (0, 2, a0_, .ref q2_), (5, 1, q1_, .ref q3_)]) rfl (fun r_27 fr_27 H locs hp hMr_27 g => ?_)
          rcases hp with ⟨h_28, -⟩ | ⟨h_29, h_30, x_31, h_32, hF_33⟩
          · obtain rfl : r_27 = 0 := h_28
            refine lv_if_eq (tgt := 239) hx hb dX0_readName_225 (by decide) (fun c_ => ?_) (fun c_ => absurd (by decide) c_)
            refine lv_iload hx hb dX0_readName_239 (lv_at hl 0 rfl) ?_
            refine lv_bipush (v := 16) hx hb dX0_readName_241 (by decide) ?_
            have kb_16 : bd 16 16 (16 : Int32) := ⟨by decide, by decide⟩
            refine lv_icmp_lt (tgt := 267) hx hb dX0_readName_243 (by decide) (fun c_34 => ?_) (fun c_34 => ?_)
            · have fc_34 := lt_f c_34
              have b_35 : bd 0 15 r_11 := ltL fc_34 b_14 kb_16 (by decide)
              refine lv_aload_n hx hb dX0_readName_267 rfl (lv_at hl 3 rfl) ?_
              refine g_getk (C := RX0) (T := TX0) (N := 14) hx hb hts (mc_ inX0) hown hK g rfl 2 (by decide) rfl (hts _ (List.mem_cons_of_mem _ t_375)) (fun _ h9 => h9) 4 rfl dX0_readName_268 ?_
              refine lv_iconst (v := 3) hx hb dX0_readName_271 (by decide) ?_
              refine lv_aload_n hx hb dX0_readName_272 rfl (lv_at hl 3 rfl) ?_
              refine g_getk (C := RX0) (T := TX0) (N := 14) hx hb hts (mc_ inX0) hown hK g rfl 1 (by decide) rfl (hts _ (List.mem_cons_of_mem _ t_374)) (fun _ h9 => h9) 3 rfl dX0_readName_273 ?_
              refine g_getk (C := RX5) (T := TX5) (N := 9) hx hb hts (mc_ inX5) hown hK g rfl 1 (by decide) rfl (hts _ (List.mem_cons_of_mem _ t_332)) (fun _ h9 => h9) 5 rfl dX0_readName_276 ?_
              refine lv_iload hx hb dX0_readName_279 (lv_at hl 0 rfl) ?_
              refine g_calli (va_runV (As := [.int r_11]) (rest := [.int 3, .ref q2_]) ⟨hx, hb, hml, hown, hts⟩ (r_X9_spanOf l dC dI L kd tys fr_27 H.size g.2.2.2.1 q3_ mq3_ kq3_ r_11) (cwV 1 hts (gV_ t_1264 t_1265 t_1266 t_192 t_1267) rfl rfl rfl (by decide +kernel) ⟨(Nat.le_of_ble_eq_true rfl), (Nat.le_of_ble_eq_true rfl)⟩) (pre3V g hK mq3_ kq3_ (by decide) (q := (RX9, TX9, 13)) rfl) rfl rfl hl.1 rfl (lv_room (Nat.le_of_ble_eq_true rfl)) dX0_readName_281 ⟨(Nat.le_of_ble_eq_true rfl), (Nat.le_of_ble_eq_true rfl)⟩) g hK (by decide) (by decide) (fx' := [(7, 18, q2_, .int y_16), (8, 6, q0_, .int x_4), (0, 0, a0_, .ref q0_), (0, 1, a0_, .ref q1_), (0, 2, a0_, .ref q2_), (5, 1, q1_, .ref q3_)]) rfl (fun r_36 fr_36 H locs hp hMr_36 g => ?_)
              obtain ⟨h_37, -⟩ := hp
              refine g_callv (va_runV (As := [.int 3, .int r_36]) (rest := []) ⟨hx, hb, hml, hown, hts⟩ (r_X7_emit l dC dI L kd tys fr_36 H.size g.2.2.2.1 q2_ mq2_ kq2_ 3 r_36) (cwV 2 hts (gV_ t_1203 t_1204 t_1205 t_191 t_1206) rfl rfl rfl (by decide +kernel) ⟨(Nat.le_of_ble_eq_true rfl), (Nat.le_of_ble_eq_true rfl)⟩) (pre3V g hK mq2_ kq2_ (by decide) (q := (RX7, TX7, 19)) rfl) rfl rfl hl.1 rfl (lv_room (Nat.le_of_ble_eq_true rfl)) dX0_readName_284 ⟨(Nat.le_of_ble_eq_true rfl), (Nat.le_of_ble_eq_true rfl)⟩) g hK (by decide) (by decide) (fx' := [(7, 18, q2_, .int y_16), (8, 6, q0_, .int x_4), (0, 0, a0_, .ref q0_), (0, 1, a0_, .ref q1_), (0, 2, a0_, .ref q2_), (5, 1, q1_, .ref q3_)]) rfl (fun fr_38 H locs hp hMr_38 g => ?_)
              obtain ⟨x_39, h_40, hF_41⟩ := hp
              have g := g.more hF_41
              refine lv_aload_n hx hb dX0_readName_287 rfl (lv_at hl 3 rfl) ?_
              refine lv_iconst (v := 1) hx hb dX0_readName_288 (by decide) ?_
              refine g_callv (va_runV (As := [.int 1]) (rest := []) ⟨hx, hb, hml, hown, hts⟩ (r_X0_addWhole l dC dI L kd tys fr_38 H.size g.2.2.2.1 a0_ ma0_ ka0_ 1) (cwV 1 hts (gV_ t_1211 t_1213 t_17 t_190 t_1214) rfl rfl rfl (by decide +kernel) ⟨(Nat.le_of_ble_eq_true rfl), (Nat.le_of_ble_eq_true rfl)⟩) (pre3V g hK ma0_ ka0_ (by decide) (q := (RX0, TX0, 14)) rfl) rfl rfl hl.1 rfl (lv_room (Nat.le_of_ble_eq_true rfl)) dX0_readName_289 ⟨(Nat.le_of_ble_eq_true rfl), (Nat.le_of_ble_eq_true rfl)⟩) g hK (by decide) (by decide) (fx' := [(7, 6, q2_, .int x_39), (7, 18, q2_, .int y_16), (8, 6, q0_, .int x_4), (0, 0, a0_, .ref q0_), (0, 1, a0_, .ref q1_), (0, 2, a0_, .ref q2_), (5, 1, q1_, .ref q3_)]) rfl (fun fr_42 H locs hp hMr_42 g => ?_)
              obtain ⟨x_43, h_44, hF_45⟩ := hp
              have g := g.more hF_45
              subst hQ
              exact W.vret hx hb hr (fun t ht hW => ⟨⟨_, rfl, Or.inr (⟨x_4, h_5, (g.fcts [4] rfl)⟩), q3_of g hK ht hW⟩, g.2.2.1.F ht⟩) g.2.2.1.2.2 dX0_readName_292
            · have fc_34 := nlt_f c_34
              have b_46 : bd 16 26 r_11 := leR fc_34 kb_16 b_14 (by decide)
              refine lv_aload_n hx hb dX0_readName_246 rfl (lv_at hl 3 rfl) ?_
              refine g_getk (C := RX0) (T := TX0) (N := 14) hx hb hts (mc_ inX0) hown hK g rfl 2 (by decide) rfl (hts _ (List.mem_cons_of_mem _ t_375)) (fun _ h9 => h9) 4 rfl dX0_readName_247 ?_
              refine lv_iconst (v := 2) hx hb dX0_readName_250 (by decide) ?_
              refine lv_iload hx hb dX0_readName_251 (lv_at hl 0 rfl) ?_
              refine lv_bipush (v := 16) hx hb dX0_readName_253 (by decide) ?_
              refine lv_isub hx hb dX0_readName_255 ?_
              refine lv_topi (fun y_47 ey_47 => ?_)
              have ty_47 := sub_bd ey_47 b_46 kb_16 (by decide)
              have b_48 : bd 0 10 y_47 := sub_rg ty_47 b_46 kb_16 (by decide)
              refine g_callv (va_runV (As := [.int 2, .int y_47]) (rest := []) ⟨hx, hb, hml, hown, hts⟩ (r_X7_emit l dC dI L kd tys fr_27 H.size g.2.2.2.1 q2_ mq2_ kq2_ 2 y_47) (cwV 2 hts (gV_ t_1203 t_1204 t_1205 t_191 t_1206) rfl rfl rfl (by decide +kernel) ⟨(Nat.le_of_ble_eq_true rfl), (Nat.le_of_ble_eq_true rfl)⟩) (pre3V g hK mq2_ kq2_ (by decide) (q := (RX7, TX7, 19)) rfl) rfl rfl hl.1 rfl (lv_room (Nat.le_of_ble_eq_true rfl)) dX0_readName_256 ⟨(Nat.le_of_ble_eq_true rfl), (Nat.le_of_ble_eq_true rfl)⟩) g hK (by decide) (by decide) (fx' := [(7, 18, q2_, .int y_16), (8, 6, q0_, .int x_4), (0, 0, a0_, .ref q0_), (0, 1, a0_, .ref q1_), (0, 2, a0_, .ref q2_), (5, 1, q1_, .ref q3_)]) rfl (fun fr_49 H locs hp hMr_49 g => ?_)
              obtain ⟨x_50, h_51, hF_52⟩ := hp
              have g := g.more hF_52
              refine lv_aload_n hx hb dX0_readName_259 rfl (lv_at hl 3 rfl) ?_
              refine lv_iconst (v := 1) hx hb dX0_readName_260 (by decide) ?_
              refine g_callv (va_runV (As := [.int 1]) (rest := []) ⟨hx, hb, hml, hown, hts⟩ (r_X0_addWhole l dC dI L kd tys fr_49 H.size g.2.2.2.1 a0_ ma0_ ka0_ 1) (cwV 1 hts (gV_ t_1211 t_1213 t_17 t_190 t_1214) rfl rfl rfl (by decide +kernel) ⟨(Nat.le_of_ble_eq_true rfl), (Nat.le_of_ble_eq_true rfl)⟩) (pre3V g hK ma0_ ka0_ (by decide) (q := (RX0, TX0, 14)) rfl) rfl rfl hl.1 rfl (lv_room (Nat.le_of_ble_eq_true rfl)) dX0_readName_261 ⟨(Nat.le_of_ble_eq_true rfl), (Nat.le_of_ble_eq_true rfl)⟩) g hK (by decide) (by decide) (fx' := [(7, 6, q2_, .int x_50), (7, 18, q2_, .int y_16), (8, 6, q0_, .int x_4), (0, 0, a0_, .ref q0_), (0, 1, a0_, .ref q1_), (0, 2, a0_, .ref q2_), (5, 1, q1_, .ref q3_)]) rfl (fun fr_53 H locs hp hMr_53 g => ?_)
              obtain ⟨x_54, h_55, hF_56⟩ := hp
              have g := g.more hF_56
              refine lv_goto (tgt := 292) hx hb dX0_readName_264 (by decide) ?_
              subst hQ
              exact W.vret hx hb hr (fun t ht hW => ⟨⟨_, rfl, Or.inr (⟨x_4, h_5, (g.fcts [4] rfl)⟩), q3_of g hK ht hW⟩, g.2.2.1.F ht⟩) g.2.2.1.2.2 dX0_readName_292
          · obtain rfl : r_27 = 1 := h_29
            have b_57 : bd 0 9 r_11 := eqX rfl b_14 h_30 (by decide)
            have g := g.more hF_33
            refine lv_if_eq (tgt := 239) hx hb dX0_readName_225 (by decide) (fun c_ => absurd c_ (by decide)) (fun c_ => ?_)
            refine lv_aload_n hx hb dX0_readName_228 rfl (lv_at hl 3 rfl) ?_
            refine lv_iconst (v := 4) hx hb dX0_readName_229 (by decide) ?_
            refine lv_iload_n hx hb dX0_readName_230 rfl (lv_at hl 1 rfl) ?_
            refine lv_iload hx hb dX0_readName_231 (lv_at hl 0 rfl) ?_
            refine g_callv (va_runV (As := [.int 4, .int r_2, .int r_11]) (rest := []) ⟨hx, hb, hml, hown, hts⟩ (r_X0_openIndex l dC dI L kd tys fr_27 H.size g.2.2.2.1 a0_ ma0_ ka0_ 4 r_2 r_11 q0_ mq0_ kq0_ q1_ mq1_ kq1_ q3_ mq3_ kq3_ (g.fcts [3, 4, 6] rfl)) (cwV 3 hts (gV_ t_1260 t_1262 t_24 t_190 t_1263) rfl rfl rfl (by decide +kernel) ⟨(Nat.le_of_ble_eq_true rfl), (Nat.le_of_ble_eq_true rfl)⟩) (pre3V g hK ma0_ ka0_ (by decide) (q := (RX0, TX0, 14)) rfl) rfl rfl hl.1 rfl (lv_room (Nat.le_of_ble_eq_true rfl)) dX0_readName_233 ⟨(Nat.le_of_ble_eq_true rfl), (Nat.le_of_ble_eq_true rfl)⟩) g hK (by decide) (by decide) (fx' := [(9, 2, q3_, .int x_31), (7, 18, q2_, .int y_16), (0, 0, a0_, .ref q0_), (0, 1, a0_, .ref q1_), (0, 2, a0_, .ref q2_), (5, 1, q1_, .ref q3_)]) rfl (fun fr_58 H locs hp hMr_58 g => ?_)
            rcases hp with ⟨x_59, h_60, x_61, h_62, hF_63⟩ | ⟨x_64, h_65, x_66, h_67, x_68, h_69, hF_70⟩
            · have g := g.more hF_63
              refine lv_goto (tgt := 292) hx hb dX0_readName_236 (by decide) ?_
              have kb_1201 : bd 1201 1201 (1201 : Int32) := ⟨by decide, by decide⟩
              subst hQ
              exact W.vret hx hb hr (fun t ht hW => ⟨⟨_, rfl, Or.inl ⟨1201, kb_1201, x_61, h_62, (g.fcts [1, 2] rfl)⟩, q3_of g hK ht hW⟩, g.2.2.1.F ht⟩) g.2.2.1.2.2 dX0_readName_292
            · have g := g.more hF_70
              refine lv_goto (tgt := 292) hx hb dX0_readName_236 (by decide) ?_
              subst hQ
              exact W.vret hx hb hr (fun t ht hW => ⟨⟨_, rfl, Or.inr (⟨x_64, h_65, (g.fcts [0] rfl)⟩), q3_of g hK ht hW⟩, g.2.2.1.F ht⟩) g.2.2.1.2.2 dX0_readName_292
        · have fc_26 := eq_f c_26
          have b_71 : bd 91 91 r_25 := eqX fc_26 (bdT r_25) kb_91 (by decide)
          refine lv_iconst (v := 1) hx hb dX0_readName_193 (by decide) ?_
          refine lv_goto (tgt := 198) hx hb dX0_readName_194 (by decide) ?_
          refine lv_icmp_eq (tgt := 213) hx hb dX0_readName_198 (by decide) (fun c_ => absurd c_ (by decide)) (fun c_ => ?_)
          refine lv_aload_n hx hb dX0_readName_201 rfl (lv_at hl 3 rfl) ?_
          refine g_getk (C := RX0) (T := TX0) (N := 14) hx hb hts (mc_ inX0) hown hK g rfl 0 (by decide) rfl (hts _ (List.mem_cons_of_mem _ t_373)) (fun _ h9 => h9) 2 rfl dX0_readName_202 ?_
          refine lv_iconst (v := 5) hx hb dX0_readName_205 (by decide) ?_
          refine lv_iload_n hx hb dX0_readName_206 rfl (lv_at hl 1 rfl) ?_
          have kb_5 : bd 5 5 (5 : Int32) := ⟨by decide, by decide⟩
          refine g_callv (va_runV (As := [.int 5, .int r_2]) (rest := []) ⟨hx, hb, hml, hown, hts⟩ (r_X8_fail_2 l dC dI L kd tys fr_25 H.size g.2.2.2.1 q0_ mq0_ kq0_ 5 kb_5 r_2) (cwV 2 hts (gV_ t_1215 t_1107 t_1108 t_184 t_1109) rfl rfl rfl (by decide +kernel) ⟨(Nat.le_of_ble_eq_true rfl), (Nat.le_of_ble_eq_true rfl)⟩) (pre3V g hK mq0_ kq0_ (by decide) (q := (RX8, TX8, 10)) rfl) rfl rfl hl.1 rfl (lv_room (Nat.le_of_ble_eq_true rfl)) dX0_readName_207 ⟨(Nat.le_of_ble_eq_true rfl), (Nat.le_of_ble_eq_true rfl)⟩) g hK (by decide) (by decide) (fx' := [(7, 18, q2_, .int y_16), (0, 0, a0_, .ref q0_), (0, 1, a0_, .ref q1_), (0, 2, a0_, .ref q2_), (5, 1, q1_, .ref q3_)]) rfl (fun fr_72 H locs hp hMr_72 g => ?_)
          obtain ⟨x_73, h_74, hF_75⟩ := hp
          have g := g.more hF_75
          refine lv_goto (tgt := 292) hx hb dX0_readName_210 (by decide) ?_
          have kb_1201 : bd 1201 1201 (1201 : Int32) := ⟨by decide, by decide⟩
          subst hQ
          exact W.vret hx hb hr (fun t ht hW => ⟨⟨_, rfl, Or.inl ⟨1201, kb_1201, x_73, h_74, (g.fcts [0, 1] rfl)⟩, q3_of g hK ht hW⟩, g.2.2.1.F ht⟩) g.2.2.1.2.2 dX0_readName_292
      · obtain rfl : r_18 = 1 := h_20
        have b_76 : bd 0 9 r_11 := eqX rfl b_14 h_21 (by decide)
        have g := g.more hF_24
        refine lv_aload_n hx hb dX0_readName_181 rfl (lv_at hl 3 rfl) ?_
        refine g_getk (C := RX0) (T := TX0) (N := 14) hx hb hts (mc_ inX0) hown hK g rfl 0 (by decide) rfl (hts _ (List.mem_cons_of_mem _ t_373)) (fun _ h9 => h9) 3 rfl dX0_readName_182 ?_
        refine g_calli (va_runV (As := []) (rest := [.int 1]) ⟨hx, hb, hml, hown, hts⟩ (r_X8_kind l dC dI L kd tys fr_18 H.size g.2.2.2.1 q0_ mq0_ kq0_) (cwV 0 hts (gV_ t_1186 t_1119 t_1120 t_184 t_1121) rfl rfl rfl (by decide +kernel) ⟨(Nat.le_of_ble_eq_true rfl), (Nat.le_of_ble_eq_true rfl)⟩) (pre3V g hK mq0_ kq0_ (by decide) (q := (RX8, TX8, 10)) rfl) rfl rfl hl.1 rfl (lv_room (Nat.le_of_ble_eq_true rfl)) dX0_readName_185 ⟨(Nat.le_of_ble_eq_true rfl), (Nat.le_of_ble_eq_true rfl)⟩) g hK (by decide) (by decide) (fx' := [(9, 2, q3_, .int x_22), (7, 18, q2_, .int y_16), (8, 6, q0_, .int x_4), (0, 0, a0_, .ref q0_), (0, 1, a0_, .ref q1_), (0, 2, a0_, .ref q2_), (5, 1, q1_, .ref q3_)]) rfl (fun r_77 fr_77 H locs hp hMr_77 g => ?_)
        refine lv_bipush (v := 91) hx hb dX0_readName_188 (by decide) ?_
        have kb_91 : bd 91 91 (91 : Int32) := ⟨by decide, by decide⟩
        refine lv_icmp_ne (tgt := 197) hx hb dX0_readName_190 (by decide) (fun c_78 => ?_) (fun c_78 => ?_)
        · have fc_78 := neq_f c_78
          refine lv_iconst (v := 0) hx hb dX0_readName_197 (by decide) ?_
          refine lv_icmp_eq (tgt := 213) hx hb dX0_readName_198 (by decide) (fun c_ => absurd c_ (by decide)) (fun c_ => ?_)
          refine lv_aload_n hx hb dX0_readName_201 rfl (lv_at hl 3 rfl) ?_
          refine g_getk (C := RX0) (T := TX0) (N := 14) hx hb hts (mc_ inX0) hown hK g rfl 0 (by decide) rfl (hts _ (List.mem_cons_of_mem _ t_373)) (fun _ h9 => h9) 3 rfl dX0_readName_202 ?_
          refine lv_iconst (v := 5) hx hb dX0_readName_205 (by decide) ?_
          refine lv_iload_n hx hb dX0_readName_206 rfl (lv_at hl 1 rfl) ?_
          have kb_5 : bd 5 5 (5 : Int32) := ⟨by decide, by decide⟩
          refine g_callv (va_runV (As := [.int 5, .int r_2]) (rest := []) ⟨hx, hb, hml, hown, hts⟩ (r_X8_fail_2 l dC dI L kd tys fr_77 H.size g.2.2.2.1 q0_ mq0_ kq0_ 5 kb_5 r_2) (cwV 2 hts (gV_ t_1215 t_1107 t_1108 t_184 t_1109) rfl rfl rfl (by decide +kernel) ⟨(Nat.le_of_ble_eq_true rfl), (Nat.le_of_ble_eq_true rfl)⟩) (pre3V g hK mq0_ kq0_ (by decide) (q := (RX8, TX8, 10)) rfl) rfl rfl hl.1 rfl (lv_room (Nat.le_of_ble_eq_true rfl)) dX0_readName_207 ⟨(Nat.le_of_ble_eq_true rfl), (Nat.le_of_ble_eq_true rfl)⟩) g hK (by decide) (by decide) (fx' := [(9, 2, q3_, .int x_22), (7, 18, q2_, .int y_16), (0, 0, a0_, .ref q0_), (0, 1, a0_, .ref q1_), (0, 2, a0_, .ref q2_), (5, 1, q1_, .ref q3_)]) rfl (fun fr_79 H locs hp hMr_79 g => ?_)
          obtain ⟨x_80, h_81, hF_82⟩ := hp
          have g := g.more hF_82
          refine lv_goto (tgt := 292) hx hb dX0_readName_210 (by decide) ?_
          have kb_1201 : bd 1201 1201 (1201 : Int32) := ⟨by decide, by decide⟩
          subst hQ
          exact W.vret hx hb hr (fun t ht hW => ⟨⟨_, rfl, Or.inl ⟨1201, kb_1201, x_80, h_81, (g.fcts [0, 1] rfl)⟩, q3_of g hK ht hW⟩, g.2.2.1.F ht⟩) g.2.2.1.2.2 dX0_readName_292
        · have fc_78 := eq_f c_78
          have b_83 : bd 91 91 r_77 := eqX fc_78 (bdT r_77) kb_91 (by decide)
          refine lv_iconst (v := 1) hx hb dX0_readName_193 (by decide) ?_
          refine lv_goto (tgt := 198) hx hb dX0_readName_194 (by decide) ?_
          refine lv_icmp_eq (tgt := 213) hx hb dX0_readName_198 (by decide) (fun c_ => ?_) (fun c_ => absurd (by decide) c_)
          refine lv_aload_n hx hb dX0_readName_213 rfl (lv_at hl 3 rfl) ?_
          refine g_getk (C := RX0) (T := TX0) (N := 14) hx hb hts (mc_ inX0) hown hK g rfl 1 (by decide) rfl (hts _ (List.mem_cons_of_mem _ t_374)) (fun _ h9 => h9) 4 rfl dX0_readName_214 ?_
          refine g_getk (C := RX5) (T := TX5) (N := 9) hx hb hts (mc_ inX5) hown hK g rfl 1 (by decide) rfl (hts _ (List.mem_cons_of_mem _ t_332)) (fun _ h9 => h9) 6 rfl dX0_readName_217 ?_
          refine lv_iload hx hb dX0_readName_220 (lv_at hl 0 rfl) ?_
          refine g_calli (va_runV (As := [.int r_11]) (rest := []) ⟨hx, hb, hml, hown, hts⟩ (r_X9_isRow l dC dI L kd tys fr_77 H.size g.2.2.2.1 q3_ mq3_ kq3_ r_11) (cwV 1 hts (gV_ t_1256 t_1257 t_1258 t_192 t_1259) rfl rfl rfl (by decide +kernel) ⟨(Nat.le_of_ble_eq_true rfl), (Nat.le_of_ble_eq_true rfl)⟩) (pre3V g hK mq3_ kq3_ (by decide) (q := (RX9, TX9, 13)) rfl) rfl rfl hl.1 rfl (lv_room (Nat.le_of_ble_eq_true rfl)) dX0_readName_222 ⟨(Nat.le_of_ble_eq_true rfl), (Nat.le_of_ble_eq_true rfl)⟩) g hK (by decide) (by decide) (fx' := [(9, 2, q3_, .int x_22), (7, 18, q2_, .int y_16), (8, 6, q0_, .int x_4), (0, 0, a0_, .ref q0_), (0, 1, a0_, .ref q1_), (0, 2, a0_, .ref q2_), (5, 1, q1_, .ref q3_)]) rfl (fun r_84 fr_84 H locs hp hMr_84 g => ?_)
          rcases hp with ⟨h_85, -⟩ | ⟨h_86, h_87, x_88, h_89, hF_90⟩
          · obtain rfl : r_84 = 0 := h_85
            refine lv_if_eq (tgt := 239) hx hb dX0_readName_225 (by decide) (fun c_ => ?_) (fun c_ => absurd (by decide) c_)
            refine lv_iload hx hb dX0_readName_239 (lv_at hl 0 rfl) ?_
            refine lv_bipush (v := 16) hx hb dX0_readName_241 (by decide) ?_
            have kb_16 : bd 16 16 (16 : Int32) := ⟨by decide, by decide⟩
            refine lv_icmp_lt (tgt := 267) hx hb dX0_readName_243 (by decide) (fun c_91 => ?_) (fun c_91 => ?_)
            · have fc_91 := lt_f c_91
              refine lv_aload_n hx hb dX0_readName_267 rfl (lv_at hl 3 rfl) ?_
              refine g_getk (C := RX0) (T := TX0) (N := 14) hx hb hts (mc_ inX0) hown hK g rfl 2 (by decide) rfl (hts _ (List.mem_cons_of_mem _ t_375)) (fun _ h9 => h9) 5 rfl dX0_readName_268 ?_
              refine lv_iconst (v := 3) hx hb dX0_readName_271 (by decide) ?_
              refine lv_aload_n hx hb dX0_readName_272 rfl (lv_at hl 3 rfl) ?_
              refine g_getk (C := RX0) (T := TX0) (N := 14) hx hb hts (mc_ inX0) hown hK g rfl 1 (by decide) rfl (hts _ (List.mem_cons_of_mem _ t_374)) (fun _ h9 => h9) 4 rfl dX0_readName_273 ?_
              refine g_getk (C := RX5) (T := TX5) (N := 9) hx hb hts (mc_ inX5) hown hK g rfl 1 (by decide) rfl (hts _ (List.mem_cons_of_mem _ t_332)) (fun _ h9 => h9) 6 rfl dX0_readName_276 ?_
              refine lv_iload hx hb dX0_readName_279 (lv_at hl 0 rfl) ?_
              refine g_calli (va_runV (As := [.int r_11]) (rest := [.int 3, .ref q2_]) ⟨hx, hb, hml, hown, hts⟩ (r_X9_spanOf l dC dI L kd tys fr_84 H.size g.2.2.2.1 q3_ mq3_ kq3_ r_11) (cwV 1 hts (gV_ t_1264 t_1265 t_1266 t_192 t_1267) rfl rfl rfl (by decide +kernel) ⟨(Nat.le_of_ble_eq_true rfl), (Nat.le_of_ble_eq_true rfl)⟩) (pre3V g hK mq3_ kq3_ (by decide) (q := (RX9, TX9, 13)) rfl) rfl rfl hl.1 rfl (lv_room (Nat.le_of_ble_eq_true rfl)) dX0_readName_281 ⟨(Nat.le_of_ble_eq_true rfl), (Nat.le_of_ble_eq_true rfl)⟩) g hK (by decide) (by decide) (fx' := [(9, 2, q3_, .int x_22), (7, 18, q2_, .int y_16), (8, 6, q0_, .int x_4), (0, 0, a0_, .ref q0_), (0, 1, a0_, .ref q1_), (0, 2, a0_, .ref q2_), (5, 1, q1_, .ref q3_)]) rfl (fun r_92 fr_92 H locs hp hMr_92 g => ?_)
              obtain ⟨h_93, -⟩ := hp
              refine g_callv (va_runV (As := [.int 3, .int r_92]) (rest := []) ⟨hx, hb, hml, hown, hts⟩ (r_X7_emit l dC dI L kd tys fr_92 H.size g.2.2.2.1 q2_ mq2_ kq2_ 3 r_92) (cwV 2 hts (gV_ t_1203 t_1204 t_1205 t_191 t_1206) rfl rfl rfl (by decide +kernel) ⟨(Nat.le_of_ble_eq_true rfl), (Nat.le_of_ble_eq_true rfl)⟩) (pre3V g hK mq2_ kq2_ (by decide) (q := (RX7, TX7, 19)) rfl) rfl rfl hl.1 rfl (lv_room (Nat.le_of_ble_eq_true rfl)) dX0_readName_284 ⟨(Nat.le_of_ble_eq_true rfl), (Nat.le_of_ble_eq_true rfl)⟩) g hK (by decide) (by decide) (fx' := [(9, 2, q3_, .int x_22), (7, 18, q2_, .int y_16), (8, 6, q0_, .int x_4), (0, 0, a0_, .ref q0_), (0, 1, a0_, .ref q1_), (0, 2, a0_, .ref q2_), (5, 1, q1_, .ref q3_)]) rfl (fun fr_94 H locs hp hMr_94 g => ?_)
              obtain ⟨x_95, h_96, hF_97⟩ := hp
              have g := g.more hF_97
              refine lv_aload_n hx hb dX0_readName_287 rfl (lv_at hl 3 rfl) ?_
              refine lv_iconst (v := 1) hx hb dX0_readName_288 (by decide) ?_
              refine g_callv (va_runV (As := [.int 1]) (rest := []) ⟨hx, hb, hml, hown, hts⟩ (r_X0_addWhole l dC dI L kd tys fr_94 H.size g.2.2.2.1 a0_ ma0_ ka0_ 1) (cwV 1 hts (gV_ t_1211 t_1213 t_17 t_190 t_1214) rfl rfl rfl (by decide +kernel) ⟨(Nat.le_of_ble_eq_true rfl), (Nat.le_of_ble_eq_true rfl)⟩) (pre3V g hK ma0_ ka0_ (by decide) (q := (RX0, TX0, 14)) rfl) rfl rfl hl.1 rfl (lv_room (Nat.le_of_ble_eq_true rfl)) dX0_readName_289 ⟨(Nat.le_of_ble_eq_true rfl), (Nat.le_of_ble_eq_true rfl)⟩) g hK (by decide) (by decide) (fx' := [(7, 6, q2_, .int x_95), (9, 2, q3_, .int x_22), (7, 18, q2_, .int y_16), (8, 6, q0_, .int x_4), (0, 0, a0_, .ref q0_), (0, 1, a0_, .ref q1_), (0, 2, a0_, .ref q2_), (5, 1, q1_, .ref q3_)]) rfl (fun fr_98 H locs hp hMr_98 g => ?_)
              obtain ⟨x_99, h_100, hF_101⟩ := hp
              have g := g.more hF_101
              subst hQ
              exact W.vret hx hb hr (fun t ht hW => ⟨⟨_, rfl, Or.inr (⟨x_4, h_5, (g.fcts [5] rfl)⟩), q3_of g hK ht hW⟩, g.2.2.1.F ht⟩) g.2.2.1.2.2 dX0_readName_292
            · have fc_91 := nlt_f c_91
              have b_102 : bd 16 9 (16 : Int32) := leL fc_91 kb_16 b_76 (by decide)
              exact bd_no (eqX rfl b_102 kb_16 (lo := 16) (hi := 9) (by decide)) (by decide)
          · obtain rfl : r_84 = 1 := h_86
            have g := g.more hF_90
            have e_103 := fx_same g 1 0 rfl rfl
            have g := g.sub (fx' := [(9, 2, q3_, .int x_22), (7, 18, q2_, .int y_16), (8, 6, q0_, .int x_4), (0, 0, a0_, .ref q0_), (0, 1, a0_, .ref q1_), (0, 2, a0_, .ref q2_), (5, 1, q1_, .ref q3_)]) [1, 2, 3, 4, 5, 6, 7] rfl
            refine lv_if_eq (tgt := 239) hx hb dX0_readName_225 (by decide) (fun c_ => absurd c_ (by decide)) (fun c_ => ?_)
            refine lv_aload_n hx hb dX0_readName_228 rfl (lv_at hl 3 rfl) ?_
            refine lv_iconst (v := 4) hx hb dX0_readName_229 (by decide) ?_
            refine lv_iload_n hx hb dX0_readName_230 rfl (lv_at hl 1 rfl) ?_
            refine lv_iload hx hb dX0_readName_231 (lv_at hl 0 rfl) ?_
            refine g_callv (va_runV (As := [.int 4, .int r_2, .int r_11]) (rest := []) ⟨hx, hb, hml, hown, hts⟩ (r_X0_openIndex l dC dI L kd tys fr_84 H.size g.2.2.2.1 a0_ ma0_ ka0_ 4 r_2 r_11 q0_ mq0_ kq0_ q1_ mq1_ kq1_ q3_ mq3_ kq3_ (g.fcts [3, 4, 6] rfl)) (cwV 3 hts (gV_ t_1260 t_1262 t_24 t_190 t_1263) rfl rfl rfl (by decide +kernel) ⟨(Nat.le_of_ble_eq_true rfl), (Nat.le_of_ble_eq_true rfl)⟩) (pre3V g hK ma0_ ka0_ (by decide) (q := (RX0, TX0, 14)) rfl) rfl rfl hl.1 rfl (lv_room (Nat.le_of_ble_eq_true rfl)) dX0_readName_233 ⟨(Nat.le_of_ble_eq_true rfl), (Nat.le_of_ble_eq_true rfl)⟩) g hK (by decide) (by decide) (fx' := [(9, 2, q3_, .int x_22), (7, 18, q2_, .int y_16), (0, 0, a0_, .ref q0_), (0, 1, a0_, .ref q1_), (0, 2, a0_, .ref q2_), (5, 1, q1_, .ref q3_)]) rfl (fun fr_104 H locs hp hMr_104 g => ?_)
            rcases hp with ⟨x_105, h_106, x_107, h_108, hF_109⟩ | ⟨x_110, h_111, x_112, h_113, x_114, h_115, hF_116⟩
            · have g := g.more hF_109
              refine lv_goto (tgt := 292) hx hb dX0_readName_236 (by decide) ?_
              have kb_1201 : bd 1201 1201 (1201 : Int32) := ⟨by decide, by decide⟩
              subst hQ
              exact W.vret hx hb hr (fun t ht hW => ⟨⟨_, rfl, Or.inl ⟨1201, kb_1201, x_107, h_108, (g.fcts [1, 2] rfl)⟩, q3_of g hK ht hW⟩, g.2.2.1.F ht⟩) g.2.2.1.2.2 dX0_readName_292
            · have g := g.more hF_116
              refine lv_goto (tgt := 292) hx hb dX0_readName_236 (by decide) ?_
              subst hQ
              exact W.vret hx hb hr (fun t ht hW => ⟨⟨_, rfl, Or.inr (⟨x_110, h_111, (g.fcts [0] rfl)⟩), q3_of g hK ht hW⟩, g.2.2.1.F ht⟩) g.2.2.1.2.2 dX0_readName_292
    · have fc_13 := eq_f c_13
      have b_117 : bd (-1) (-1) r_11 := eqX fc_13 h_12 kb_m1 (by decide)
      refine lv_aload_n hx hb dX0_readName_146 rfl (lv_at hl 3 rfl) ?_
      refine g_getk (C := RX0) (T := TX0) (N := 14) hx hb hts (mc_ inX0) hown hK g rfl 0 (by decide) rfl (hts _ (List.mem_cons_of_mem _ t_373)) (fun _ h9 => h9) 1 rfl dX0_readName_147 ?_
      refine lv_iconst (v := 2) hx hb dX0_readName_150 (by decide) ?_
      refine lv_iload_n hx hb dX0_readName_151 rfl (lv_at hl 1 rfl) ?_
      have kb_2 : bd 2 2 (2 : Int32) := ⟨by decide, by decide⟩
      refine g_callv (va_runV (As := [.int 2, .int r_2]) (rest := []) ⟨hx, hb, hml, hown, hts⟩ (r_X8_fail_3 l dC dI L kd tys fr_11 H.size g.2.2.2.1 q0_ mq0_ kq0_ 2 kb_2 r_2) (cwV 2 hts (gV_ t_1215 t_1107 t_1108 t_184 t_1109) rfl rfl rfl (by decide +kernel) ⟨(Nat.le_of_ble_eq_true rfl), (Nat.le_of_ble_eq_true rfl)⟩) (pre3V g hK mq0_ kq0_ (by decide) (q := (RX8, TX8, 10)) rfl) rfl rfl hl.1 rfl (lv_room (Nat.le_of_ble_eq_true rfl)) dX0_readName_152 ⟨(Nat.le_of_ble_eq_true rfl), (Nat.le_of_ble_eq_true rfl)⟩) g hK (by decide) (by decide) (fx' := [(0, 0, a0_, .ref q0_), (0, 1, a0_, .ref q1_), (0, 2, a0_, .ref q2_), (5, 1, q1_, .ref q3_)]) rfl (fun fr_118 H locs hp hMr_118 g => ?_)
      obtain ⟨x_119, h_120, hF_121⟩ := hp
      have g := g.more hF_121
      have kb_1201 : bd 1201 1201 (1201 : Int32) := ⟨by decide, by decide⟩
      subst hQ
      exact W.vret hx hb hr (fun t ht hW => ⟨⟨_, rfl, Or.inl ⟨1201, kb_1201, x_119, h_120, (g.fcts [0, 1] rfl)⟩, q3_of g hK ht hW⟩, g.2.2.1.F ht⟩) g.2.2.1.2.2 dX0_readName_155
  · have fc_9 := neq_f c_9
    have b_122 : bd 1 1 r_7 := neX fc_9 h_8 kb_0 (by decide)
    refine lv_aload_n hx hb dX0_readName_33 rfl (lv_at hl 2 rfl) ?_
    refine g_getk (C := RX0) (T := TX0) (N := 14) hx hb hts (mc_ inX0) hown hK g rfl 2 (by decide) rfl (hts _ (List.mem_cons_of_mem _ t_375)) (fun _ h9 => h9) 3 rfl dX0_readName_34 ?_
    refine lv_aload_n hx hb dX0_readName_37 rfl (lv_at hl 2 rfl) ?_
    refine g_getk (C := RX0) (T := TX0) (N := 14) hx hb hts (mc_ inX0) hown hK g rfl 1 (by decide) rfl (hts _ (List.mem_cons_of_mem _ t_374)) (fun _ h9 => h9) 2 rfl dX0_readName_38 ?_
    refine g_getk (C := RX5) (T := TX5) (N := 9) hx hb hts (mc_ inX5) hown hK g rfl 1 (by decide) rfl (hts _ (List.mem_cons_of_mem _ t_332)) (fun _ h9 => h9) 4 rfl dX0_readName_41 ?_
    refine lv_lload_n hx hb dX0_readName_44 rfl (lv_at hl 1 rfl) ?_
    refine g_calli (va_runV (As := [.ref q3_, .long r_1]) (rest := []) ⟨hx, hb, hml, hown, hts⟩ (r_X7_memberNamed l dC dI L kd tys fr_7 H.size g.2.2.2.1 q2_ mq2_ kq2_ q3_ mq3_ kq3_ r_1) (cwV 2 hts (gV_ t_1243 t_1244 t_1245 t_191 t_1246) rfl rfl rfl (by decide +kernel) ⟨(Nat.le_of_ble_eq_true rfl), (Nat.le_of_ble_eq_true rfl)⟩) (pre3V g hK mq2_ kq2_ (by decide) (q := (RX7, TX7, 19)) rfl) rfl rfl hl.1 rfl (lv_room (Nat.le_of_ble_eq_true rfl)) dX0_readName_45 ⟨(Nat.le_of_ble_eq_true rfl), (Nat.le_of_ble_eq_true rfl)⟩) g hK (by decide) (by decide) (fx' := [(8, 6, q0_, .int x_4), (0, 0, a0_, .ref q0_), (0, 1, a0_, .ref q1_), (0, 2, a0_, .ref q2_), (5, 1, q1_, .ref q3_)]) rfl (fun r_123 fr_123 H locs hp hMr_123 g => ?_)
    obtain ⟨h_124, -⟩ := hp
    refine lv_istore (lv' := [(4, .int r_123), (3, .int r_2), (1, .long r_1), (0, .ref a0_)]) hx hb dX0_readName_48 hl (by decide) rfl (fun ls hl => ?_)
    refine lv_iload hx hb dX0_readName_50 (lv_at hl 0 rfl) ?_
    refine lv_iconst (v := (-1)) hx hb dX0_readName_52 (by decide) ?_
    have kb_m1 : bd (-1) (-1) ((-1) : Int32) := ⟨by decide, by decide⟩
    refine lv_icmp_ne (tgt := 66) hx hb dX0_readName_53 (by decide) (fun c_125 => ?_) (fun c_125 => ?_)
    · have fc_125 := neq_f c_125
      have b_126 : bd 0 11 r_123 := neX fc_125 h_124 kb_m1 (by decide)
      refine lv_aload_n hx hb dX0_readName_66 rfl (lv_at hl 3 rfl) ?_
      refine g_getk (C := RX0) (T := TX0) (N := 14) hx hb hts (mc_ inX0) hown hK g rfl 2 (by decide) rfl (hts _ (List.mem_cons_of_mem _ t_375)) (fun _ h9 => h9) 3 rfl dX0_readName_67 ?_
      refine g_getr (K := 137) (C := RX7) (T := TX7) (N := 19) hx hb hts (mc_ inX7) hown hK g mq2_ kq2_ (by decide) rfl 2 (by decide) rfl (hts _ (List.mem_cons_of_mem _ t_633)) (fun _ h9 => h9) rfl dX0_readName_70 (fun a_127 ma_127 ka_127 g => ?_)
      refine lv_aload_n hx hb dX0_readName_73 rfl (lv_at hl 3 rfl) ?_
      refine g_getk (C := RX0) (T := TX0) (N := 14) hx hb hts (mc_ inX0) hown hK g rfl 1 (by decide) rfl (hts _ (List.mem_cons_of_mem _ t_374)) (fun _ h9 => h9) 3 rfl dX0_readName_74 ?_
      refine g_getk (C := RX5) (T := TX5) (N := 9) hx hb hts (mc_ inX5) hown hK g rfl 1 (by decide) rfl (hts _ (List.mem_cons_of_mem _ t_332)) (fun _ h9 => h9) 5 rfl dX0_readName_77 ?_
      refine g_getr (K := 156) (C := RX9) (T := TX9) (N := 13) hx hb hts (mc_ inX9) hown hK g mq3_ kq3_ (by decide) rfl 9 (by decide) rfl (hts _ (List.mem_cons_of_mem _ t_508)) (fun _ h9 => h9) rfl dX0_readName_80 (fun a_128 ma_128 ka_128 g => ?_)
      refine lv_iload hx hb dX0_readName_83 (lv_at hl 0 rfl) ?_
      refine g_iald hx hb hK g ma_128 ka_128 (by decide) rfl (in_bd b_126 (by decide)) dX0_readName_85 (fun x_129 bx_129 cx_129 => ?_)
      refine g_aald hx hb hK g ma_127 ka_127 (by decide) rfl (by decide) (in_bd bx_129 (by decide)) dX0_readName_86 (fun a_130 ma_130 ua_130 wa_130 => ?_)
      have ka_130 : kd a_130 = 6 := by omega
      refine lv_astore (lv' := [(5, .ref a_130), (4, .int r_123), (3, .int r_2), (1, .long r_1), (0, .ref a0_)]) hx hb dX0_readName_87 hl (by decide) rfl (fun ls hl => ?_)
      refine lv_aload_n hx hb dX0_readName_89 rfl (lv_at hl 4 rfl) ?_
      refine g_getk (C := RX0) (T := TX0) (N := 14) hx hb hts (mc_ inX0) hown hK g rfl 1 (by decide) rfl (hts _ (List.mem_cons_of_mem _ t_374)) (fun _ h9 => h9) 4 rfl dX0_readName_90 ?_
      refine g_geti (C := RX5) (T := TX5) (N := 9) hx hb hts (mc_ inX5) hown hK g mq1_ kq1_ (by decide) rfl 7 (by decide) rfl (hts _ (List.mem_cons_of_mem _ t_343)) (fun _ h9 => h9) rfl dX0_readName_93 (fun x_131 bx_131 g => ?_)
      refine lv_if_eq (tgt := 116) hx hb dX0_readName_96 (by decide) (fun c_132 => ?_) (fun c_132 => ?_)
      · have fc_132 := eq_f c_132
        have b_133 : bd 0 0 x_131 := eqX fc_132 bx_131 kb_0 (by decide)
        refine lv_aload_n hx hb dX0_readName_116 rfl (lv_at hl 4 rfl) ?_
        refine lv_iconst (v := 2) hx hb dX0_readName_117 (by decide) ?_
        refine lv_iload_n hx hb dX0_readName_118 rfl (lv_at hl 2 rfl) ?_
        refine lv_iload hx hb dX0_readName_119 (lv_at hl 1 rfl) ?_
        refine lv_aload hx hb dX0_readName_121 (lv_at hl 0 rfl) ?_
        refine g_geti (C := RX6) (T := TX6) (N := 13) hx hb hts (mc_ inX6) hown hK g ma_130 ka_130 (by decide) rfl 3 (by decide) rfl (hts _ (List.mem_cons_of_mem _ t_564)) (fun _ h9 => h9) rfl dX0_readName_123 (fun x_134 bx_134 g => ?_)
        refine g_callv (va_runV (As := [.int 2, .int r_2, .int r_123, .int x_134]) (rest := []) ⟨hx, hb, hml, hown, hts⟩ (r_X0_openCall l dC dI L kd tys fr_123 H.size g.2.2.2.1 a0_ ma0_ ka0_ 2 r_2 r_123 x_134 q0_ mq0_ kq0_ q2_ mq2_ kq2_ (g.fcts [5, 7] rfl)) (cwV 4 hts (gV_ t_1247 t_1249 t_23 t_190 t_1250) rfl rfl rfl (by decide +kernel) ⟨(Nat.le_of_ble_eq_true rfl), (Nat.le_of_ble_eq_true rfl)⟩) (pre3V g hK ma0_ ka0_ (by decide) (q := (RX0, TX0, 14)) rfl) rfl rfl hl.1 rfl (lv_room (Nat.le_of_ble_eq_true rfl)) dX0_readName_126 ⟨(Nat.le_of_ble_eq_true rfl), (Nat.le_of_ble_eq_true rfl)⟩) g hK (by decide) (by decide) (fx' := [(6, 3, a_130, .int x_134), (5, 7, q1_, .int x_131), (9, 9, q3_, .ref a_128), (7, 2, q2_, .ref a_127), (0, 0, a0_, .ref q0_), (0, 1, a0_, .ref q1_), (0, 2, a0_, .ref q2_), (5, 1, q1_, .ref q3_)]) rfl (fun fr_135 H locs hp hMr_135 g => ?_)
        rcases hp with ⟨x_136, h_137, hF_138⟩ | ⟨x_139, h_140, x_141, h_142, hF_143⟩
        · have g := g.more hF_138
          have kb_1201 : bd 1201 1201 (1201 : Int32) := ⟨by decide, by decide⟩
          subst hQ
          exact W.vret hx hb hr (fun t ht hW => ⟨⟨_, rfl, Or.inl ⟨1201, kb_1201, x_136, h_137, (g.fcts [0, 1] rfl)⟩, q3_of g hK ht hW⟩, g.2.2.1.F ht⟩) g.2.2.1.2.2 dX0_readName_129
        · have g := g.more hF_143
          subst hQ
          exact W.vret hx hb hr (fun t ht hW => ⟨⟨_, rfl, Or.inr (⟨x_141, h_142, (g.fcts [1] rfl)⟩), q3_of g hK ht hW⟩, g.2.2.1.F ht⟩) g.2.2.1.2.2 dX0_readName_129
      · have fc_132 := neq_f c_132
        have b_144 : bd 1 1 x_131 := neX fc_132 bx_131 kb_0 (by decide)
        refine lv_aload hx hb dX0_readName_99 (lv_at hl 0 rfl) ?_
        refine g_geti (C := RX6) (T := TX6) (N := 13) hx hb hts (mc_ inX6) hown hK g ma_130 ka_130 (by decide) rfl 6 (by decide) rfl (hts _ (List.mem_cons_of_mem _ t_577)) (fun _ h9 => h9) rfl dX0_readName_101 (fun x_145 bx_145 g => ?_)
        refine lv_if_ne (tgt := 116) hx hb dX0_readName_104 (by decide) (fun c_146 => ?_) (fun c_146 => ?_)
        · have fc_146 := neq_f c_146
          have b_147 : bd 1 1 x_145 := neX fc_146 bx_145 kb_0 (by decide)
          refine lv_aload_n hx hb dX0_readName_116 rfl (lv_at hl 4 rfl) ?_
          refine lv_iconst (v := 2) hx hb dX0_readName_117 (by decide) ?_
          refine lv_iload_n hx hb dX0_readName_118 rfl (lv_at hl 2 rfl) ?_
          refine lv_iload hx hb dX0_readName_119 (lv_at hl 1 rfl) ?_
          refine lv_aload hx hb dX0_readName_121 (lv_at hl 0 rfl) ?_
          refine g_geti (C := RX6) (T := TX6) (N := 13) hx hb hts (mc_ inX6) hown hK g ma_130 ka_130 (by decide) rfl 3 (by decide) rfl (hts _ (List.mem_cons_of_mem _ t_564)) (fun _ h9 => h9) rfl dX0_readName_123 (fun x_148 bx_148 g => ?_)
          refine g_callv (va_runV (As := [.int 2, .int r_2, .int r_123, .int x_148]) (rest := []) ⟨hx, hb, hml, hown, hts⟩ (r_X0_openCall l dC dI L kd tys fr_123 H.size g.2.2.2.1 a0_ ma0_ ka0_ 2 r_2 r_123 x_148 q0_ mq0_ kq0_ q2_ mq2_ kq2_ (g.fcts [6, 8] rfl)) (cwV 4 hts (gV_ t_1247 t_1249 t_23 t_190 t_1250) rfl rfl rfl (by decide +kernel) ⟨(Nat.le_of_ble_eq_true rfl), (Nat.le_of_ble_eq_true rfl)⟩) (pre3V g hK ma0_ ka0_ (by decide) (q := (RX0, TX0, 14)) rfl) rfl rfl hl.1 rfl (lv_room (Nat.le_of_ble_eq_true rfl)) dX0_readName_126 ⟨(Nat.le_of_ble_eq_true rfl), (Nat.le_of_ble_eq_true rfl)⟩) g hK (by decide) (by decide) (fx' := [(6, 3, a_130, .int x_148), (6, 6, a_130, .int x_145), (5, 7, q1_, .int x_131), (9, 9, q3_, .ref a_128), (7, 2, q2_, .ref a_127), (0, 0, a0_, .ref q0_), (0, 1, a0_, .ref q1_), (0, 2, a0_, .ref q2_), (5, 1, q1_, .ref q3_)]) rfl (fun fr_149 H locs hp hMr_149 g => ?_)
          rcases hp with ⟨x_150, h_151, hF_152⟩ | ⟨x_153, h_154, x_155, h_156, hF_157⟩
          · have g := g.more hF_152
            have kb_1201 : bd 1201 1201 (1201 : Int32) := ⟨by decide, by decide⟩
            subst hQ
            exact W.vret hx hb hr (fun t ht hW => ⟨⟨_, rfl, Or.inl ⟨1201, kb_1201, x_150, h_151, (g.fcts [0, 1] rfl)⟩, q3_of g hK ht hW⟩, g.2.2.1.F ht⟩) g.2.2.1.2.2 dX0_readName_129
          · have g := g.more hF_157
            subst hQ
            exact W.vret hx hb hr (fun t ht hW => ⟨⟨_, rfl, Or.inr (⟨x_155, h_156, (g.fcts [1] rfl)⟩), q3_of g hK ht hW⟩, g.2.2.1.F ht⟩) g.2.2.1.2.2 dX0_readName_129
        · have fc_146 := eq_f c_146
          have b_158 : bd 0 0 x_145 := eqX fc_146 bx_145 kb_0 (by decide)
          refine lv_aload_n hx hb dX0_readName_107 rfl (lv_at hl 4 rfl) ?_
          refine g_getk (C := RX0) (T := TX0) (N := 14) hx hb hts (mc_ inX0) hown hK g rfl 0 (by decide) rfl (hts _ (List.mem_cons_of_mem _ t_373)) (fun _ h9 => h9) 5 rfl dX0_readName_108 ?_
          refine lv_iconst (v := 5) hx hb dX0_readName_111 (by decide) ?_
          refine lv_iload_n hx hb dX0_readName_112 rfl (lv_at hl 2 rfl) ?_
          have kb_5 : bd 5 5 (5 : Int32) := ⟨by decide, by decide⟩
          refine g_callv (va_runV (As := [.int 5, .int r_2]) (rest := []) ⟨hx, hb, hml, hown, hts⟩ (r_X8_fail_2 l dC dI L kd tys fr_123 H.size g.2.2.2.1 q0_ mq0_ kq0_ 5 kb_5 r_2) (cwV 2 hts (gV_ t_1215 t_1107 t_1108 t_184 t_1109) rfl rfl rfl (by decide +kernel) ⟨(Nat.le_of_ble_eq_true rfl), (Nat.le_of_ble_eq_true rfl)⟩) (pre3V g hK mq0_ kq0_ (by decide) (q := (RX8, TX8, 10)) rfl) rfl rfl hl.1 rfl (lv_room (Nat.le_of_ble_eq_true rfl)) dX0_readName_113 ⟨(Nat.le_of_ble_eq_true rfl), (Nat.le_of_ble_eq_true rfl)⟩) g hK (by decide) (by decide) (fx' := [(6, 6, a_130, .int x_145), (5, 7, q1_, .int x_131), (9, 9, q3_, .ref a_128), (7, 2, q2_, .ref a_127), (0, 0, a0_, .ref q0_), (0, 1, a0_, .ref q1_), (0, 2, a0_, .ref q2_), (5, 1, q1_, .ref q3_)]) rfl (fun fr_159 H locs hp hMr_159 g => ?_)
          obtain ⟨x_160, h_161, hF_162⟩ := hp
          have g := g.more hF_162
          refine lv_aload_n hx hb dX0_readName_116 rfl (lv_at hl 4 rfl) ?_
          refine lv_iconst (v := 2) hx hb dX0_readName_117 (by decide) ?_
          refine lv_iload_n hx hb dX0_readName_118 rfl (lv_at hl 2 rfl) ?_
          refine lv_iload hx hb dX0_readName_119 (lv_at hl 1 rfl) ?_
          refine lv_aload hx hb dX0_readName_121 (lv_at hl 0 rfl) ?_
          refine g_geti (C := RX6) (T := TX6) (N := 13) hx hb hts (mc_ inX6) hown hK g ma_130 ka_130 (by decide) rfl 3 (by decide) rfl (hts _ (List.mem_cons_of_mem _ t_564)) (fun _ h9 => h9) rfl dX0_readName_123 (fun x_163 bx_163 g => ?_)
          have kb_1201 : bd 1201 1201 (1201 : Int32) := ⟨by decide, by decide⟩
          refine g_callv (va_runV (As := [.int 2, .int r_2, .int r_123, .int x_163]) (rest := []) ⟨hx, hb, hml, hown, hts⟩ (r_X0_openCall_2 l dC dI L kd tys fr_159 H.size g.2.2.2.1 a0_ ma0_ ka0_ 2 r_2 r_123 x_163 q0_ mq0_ kq0_ q2_ mq2_ kq2_ 1201 kb_1201 x_160 h_161 (g.fcts [7, 9, 1, 2] rfl)) (cwV 4 hts (gV_ t_1247 t_1249 t_23 t_190 t_1250) rfl rfl rfl (by decide +kernel) ⟨(Nat.le_of_ble_eq_true rfl), (Nat.le_of_ble_eq_true rfl)⟩) (pre3V g hK ma0_ ka0_ (by decide) (q := (RX0, TX0, 14)) rfl) rfl rfl hl.1 rfl (lv_room (Nat.le_of_ble_eq_true rfl)) dX0_readName_126 ⟨(Nat.le_of_ble_eq_true rfl), (Nat.le_of_ble_eq_true rfl)⟩) g hK (by decide) (by decide) (fx' := [(6, 3, a_130, .int x_163), (8, 8, q0_, .int x_160), (6, 6, a_130, .int x_145), (5, 7, q1_, .int x_131), (9, 9, q3_, .ref a_128), (7, 2, q2_, .ref a_127), (0, 0, a0_, .ref q0_), (0, 1, a0_, .ref q1_), (0, 2, a0_, .ref q2_), (5, 1, q1_, .ref q3_)]) rfl (fun fr_164 H locs hp hMr_164 g => ?_)
          obtain ⟨x_165, h_166, x_167, h_168, hF_169⟩ := hp
          have g := g.more hF_169
          subst hQ
          exact W.vret hx hb hr (fun t ht hW => ⟨⟨_, rfl, Or.inl ⟨x_167, h_168, x_160, h_161, (g.fcts [1, 3] rfl)⟩, q3_of g hK ht hW⟩, g.2.2.1.F ht⟩) g.2.2.1.2.2 dX0_readName_129
    · have fc_125 := eq_f c_125
      have b_170 : bd (-1) (-1) r_123 := eqX fc_125 h_124 kb_m1 (by decide)
      refine lv_aload_n hx hb dX0_readName_56 rfl (lv_at hl 3 rfl) ?_
      refine g_getk (C := RX0) (T := TX0) (N := 14) hx hb hts (mc_ inX0) hown hK g rfl 0 (by decide) rfl (hts _ (List.mem_cons_of_mem _ t_373)) (fun _ h9 => h9) 1 rfl dX0_readName_57 ?_
      refine lv_iconst (v := 2) hx hb dX0_readName_60 (by decide) ?_
      refine lv_iload_n hx hb dX0_readName_61 rfl (lv_at hl 1 rfl) ?_
      have kb_2 : bd 2 2 (2 : Int32) := ⟨by decide, by decide⟩
      refine g_callv (va_runV (As := [.int 2, .int r_2]) (rest := []) ⟨hx, hb, hml, hown, hts⟩ (r_X8_fail_3 l dC dI L kd tys fr_123 H.size g.2.2.2.1 q0_ mq0_ kq0_ 2 kb_2 r_2) (cwV 2 hts (gV_ t_1215 t_1107 t_1108 t_184 t_1109) rfl rfl rfl (by decide +kernel) ⟨(Nat.le_of_ble_eq_true rfl), (Nat.le_of_ble_eq_true rfl)⟩) (pre3V g hK mq0_ kq0_ (by decide) (q := (RX8, TX8, 10)) rfl) rfl rfl hl.1 rfl (lv_room (Nat.le_of_ble_eq_true rfl)) dX0_readName_62 ⟨(Nat.le_of_ble_eq_true rfl), (Nat.le_of_ble_eq_true rfl)⟩) g hK (by decide) (by decide) (fx' := [(0, 0, a0_, .ref q0_), (0, 1, a0_, .ref q1_), (0, 2, a0_, .ref q2_), (5, 1, q1_, .ref q3_)]) rfl (fun fr_171 H locs hp hMr_171 g => ?_)
      obtain ⟨x_172, h_173, hF_174⟩ := hp
      have g := g.more hF_174
      have kb_1201 : bd 1201 1201 (1201 : Int32) := ⟨by decide, by decide⟩
      subst hQ
      exact W.vret hx hb hr (fun t ht hW => ⟨⟨_, rfl, Or.inl ⟨1201, kb_1201, x_172, h_173, (g.fcts [0, 1] rfl)⟩, q3_of g hK ht hW⟩, g.2.2.1.F ht⟩) g.2.2.1.2.2 dX0_readName_65
set_option maxHeartbeats 4000000 in
set_option maxRecDepth 100000 in
theorem r_X7_hasClass (l : Launch) (dC : Nat → ClassId) (dI : Nat → Nat → Nat) (L : List Nat) (kd : Nat → Nat) (tys : List (ClassId × FieldType)) (f0 : Nat → va_E) (sz : Nat) (hWT : WT L kd tys f0) (a0_ : Nat) (ma0_ : a0_ ∈ L) (ka0_ : kd a0_ = 7) (x1_ : Int32) : Met l yX7_hasClass (.code yX7_hasClass cX7_hasClass 2 (some .boolean) :: lw_g) ({ frames := 0, cells := 0, slots := 0, locals := 0 }) (va_Pc [.ref a0_, .int x1_] (P3 (dC, dI) L tys f0 sz)) (va_Qi (fun (r : Int32) (f : Nat → va_E) => (r = 0 ∧ True) ∨ (r = 1 ∧ bd 0 7 x1_ ∧ ∃ z0_ : Int32, bd 1 8 z0_ ∧ Fs L kd f [(7, 1, a0_, .int z0_)])) (Q3 (dC, dI) L kd tys [] [] f0 sz) (pA L sz)) 0 0 (pA L sz) := by
  refine Met.ofW (cc := cX7_hasClass) (maxL := 2) (ret := (some .boolean)) (by decide) rfl ?_
  intro p e s m args below meth c s₁ B hml hv
  obtain ⟨rfl, hsz, hP, hK, hD0⟩ := hv
  have hx := B.exec
  have hb := B.bytes
  have hr := B.returns
  have hts := atoms_spec (ws := (.code yX7_hasClass cX7_hasClass 2 (some .boolean) :: lw_g)) B.pre
  have hown : s.vm.findClass RX7 = some m.cls := findClass_of_methodNamed B.named
  have hlocks := B.notSynchronized
  subst hsz
  have g : G3 (dC, dI) L kd tys s f0 [] [] f0 s.heap [] [] := G3.start hP hD0 hWT Fs.nil
  have hl := lv_entry ([.ref a0_, .int x1_]) (n := 2) (Nat.le_of_ble_eq_true rfl)
  rw [lg_entry_eq]
  generalize (lg_sl ([.ref a0_, .int x1_]) ++ List.replicate (2 - (lg_sl ([.ref a0_, .int x1_])).length) Slot.unset).toArray = ls at hl ⊢
  have hl : lv_has ls 2 [(0, .ref a0_), (1, .int x1_)] := hl
  refine W_q (fun Q hQ => ?_)
  refine lv_iload_n hx hb dX7_hasClass_0 rfl (lv_at hl 1 rfl) ?_
  have kb_0 : bd 0 0 (0 : Int32) := ⟨by decide, by decide⟩
  refine lv_if_lt (tgt := 16) hx hb dX7_hasClass_1 (by decide) (fun c_1 => ?_) (fun c_1 => ?_)
  · have fc_1 := lt_f c_1
    have b_2 : bd (-2147483648) (-1) x1_ := ltL fc_1 (bdT x1_) kb_0 (by decide)
    refine lv_iconst (v := 0) hx hb dX7_hasClass_16 (by decide) ?_
    subst hQ
    exact W.zret (v := 0) hx hb hr (nar_z (bd_sub kb_0 (by decide) : bd 0 1 _).1 (bd_sub kb_0 (by decide) : bd 0 1 _).2) (fun t ht hW => ⟨⟨_, _, rfl, Or.inl ⟨rfl, trivial⟩, q3_of g hK ht hW⟩, g.2.2.1.F ht⟩) g.2.2.1.2.2 dX7_hasClass_17
  · have fc_1 := nlt_f c_1
    have b_3 : bd 0 2147483647 x1_ := leR fc_1 kb_0 (bdT x1_) (by decide)
    refine lv_iload_n hx hb dX7_hasClass_4 rfl (lv_at hl 1 rfl) ?_
    refine lv_aload_n hx hb dX7_hasClass_5 rfl (lv_at hl 0 rfl) ?_
    refine g_geti (C := RX7) (T := TX7) (N := 19) hx hb hts (mc_ inX7) hown hK g ma0_ ka0_ (by decide) rfl 1 (by decide) rfl (hts _ (List.mem_cons_of_mem _ t_626)) (fun _ h9 => h9) rfl dX7_hasClass_6 (fun x_4 bx_4 g => ?_)
    refine lv_icmp_ge (tgt := 16) hx hb dX7_hasClass_9 (by decide) (fun c_5 => ?_) (fun c_5 => ?_)
    · have fc_5 := le_f c_5
      refine lv_iconst (v := 0) hx hb dX7_hasClass_16 (by decide) ?_
      subst hQ
      exact W.zret (v := 0) hx hb hr (nar_z (bd_sub kb_0 (by decide) : bd 0 1 _).1 (bd_sub kb_0 (by decide) : bd 0 1 _).2) (fun t ht hW => ⟨⟨_, _, rfl, Or.inl ⟨rfl, trivial⟩, q3_of g hK ht hW⟩, g.2.2.1.F ht⟩) g.2.2.1.2.2 dX7_hasClass_17
    · have fc_5 := nle_f c_5
      have b_6 : bd 0 7 x1_ := ltL fc_5 b_3 bx_4 (by decide)
      have b_7 : bd 1 8 x_4 := ltR fc_5 b_3 bx_4 (by decide)
      refine lv_iconst (v := 1) hx hb dX7_hasClass_12 (by decide) ?_
      refine lv_goto (tgt := 17) hx hb dX7_hasClass_13 (by decide) ?_
      subst hQ
      have kb_1 : bd 1 1 (1 : Int32) := ⟨by decide, by decide⟩
      exact W.zret (v := 1) hx hb hr (nar_z (bd_sub kb_1 (by decide) : bd 0 1 _).1 (bd_sub kb_1 (by decide) : bd 0 1 _).2) (fun t ht hW => ⟨⟨_, _, rfl, Or.inr (⟨rfl, b_6, x_4, b_7, (g.fcts [0] rfl)⟩), q3_of g hK ht hW⟩, g.2.2.1.F ht⟩) g.2.2.1.2.2 dX7_hasClass_17
set_option maxHeartbeats 4000000 in
set_option maxRecDepth 100000 in
theorem r_X8_fail_7 (l : Launch) (dC : Nat → ClassId) (dI : Nat → Nat → Nat) (L : List Nat) (kd : Nat → Nat) (tys : List (ClassId × FieldType)) (f0 : Nat → va_E) (sz : Nat) (hWT : WT L kd tys f0) (a0_ : Nat) (ma0_ : a0_ ∈ L) (ka0_ : kd a0_ = 8) (x1_ : Int32) (bx1_ : bd 1 1 x1_) (x2_ : Int32) : Met l yX8_fail (.code yX8_fail cX8_fail 4 none :: lw_g) ({ frames := 0, cells := 0, slots := 0, locals := 0 }) (va_Pc [.ref a0_, .int x1_, .int x2_] (P3 (dC, dI) L tys f0 sz)) (va_Qv (fun (f : Nat → va_E) => (∃ z1_ : Int32, bd 1 7 z1_ ∧ Fs L kd f [(8, 6, a0_, .int 1201), (8, 8, a0_, .int z1_)])) (Q3 (dC, dI) L kd tys [(8, 6), (8, 8), (8, 9)] [] f0 sz) (pA L sz)) 0 0 (pA L sz) := by
  refine Met.ofW (cc := cX8_fail) (maxL := 4) (ret := none) (by decide) rfl ?_
  intro p e s m args below meth c s₁ B hml hv
  obtain ⟨rfl, hsz, hP, hK, hD0⟩ := hv
  have hx := B.exec
  have hb := B.bytes
  have hr := B.returns
  have hts := atoms_spec (ws := (.code yX8_fail cX8_fail 4 none :: lw_g)) B.pre
  have hown : s.vm.findClass RX8 = some m.cls := findClass_of_methodNamed B.named
  have hlocks := B.notSynchronized
  subst hsz
  have g : G3 (dC, dI) L kd tys s f0 [(8, 6), (8, 8), (8, 9)] [] f0 s.heap [] [] := G3.start hP hD0 hWT Fs.nil
  have hl := lv_entry ([.ref a0_, .int x1_, .int x2_]) (n := 4) (Nat.le_of_ble_eq_true rfl)
  rw [lg_entry_eq]
  generalize (lg_sl ([.ref a0_, .int x1_, .int x2_]) ++ List.replicate (4 - (lg_sl ([.ref a0_, .int x1_, .int x2_])).length) Slot.unset).toArray = ls at hl ⊢
  have hl : lv_has ls 4 [(0, .ref a0_), (1, .int x1_), (2, .int x2_)] := hl
  refine W_q (fun Q hQ => ?_)
  refine lv_aload_n hx hb dX8_fail_0 rfl (lv_at hl 0 rfl) ?_
  refine g_geti (C := RX8) (T := TX8) (N := 10) hx hb hts (mc_ inX8) hown hK g ma0_ ka0_ (by decide) rfl 6 (by decide) rfl (hts _ (List.mem_cons_of_mem _ t_291)) (fun _ h9 => h9) rfl dX8_fail_1 (fun x_1 bx_1 g => ?_)
  refine lv_sipush (v := 1200) hx hb dX8_fail_4 (by decide) ?_
  have kb_1200 : bd 1200 1200 (1200 : Int32) := ⟨by decide, by decide⟩
  refine lv_icmp_le (tgt := 31) hx hb dX8_fail_7 (by decide) (fun c_2 => ?_) (fun c_2 => ?_)
  · have fc_2 := le_f c_2
    have b_3 : bd 0 1200 x_1 := leL fc_2 bx_1 kb_1200 (by decide)
    refine lv_iconst (v := 0) hx hb dX8_fail_31 (by decide) ?_
    refine lv_istore_n (lv' := [(3, .int 0), (0, .ref a0_), (1, .int x1_), (2, .int x2_)]) hx hb dX8_fail_32 rfl hl (by decide) rfl (fun ls hl => ?_)
    refine lv_aload_n hx hb dX8_fail_33 rfl (lv_at hl 1 rfl) ?_
    refine g_geti (C := RX8) (T := TX8) (N := 10) hx hb hts (mc_ inX8) hown hK g ma0_ ka0_ (by decide) rfl 8 (by decide) rfl (hts _ (List.mem_cons_of_mem _ t_295)) (fun _ h9 => h9) rfl dX8_fail_34 (fun x_4 bx_4 g => ?_)
    have kb_0 : bd 0 0 (0 : Int32) := ⟨by decide, by decide⟩
    refine lv_if_ne (tgt := 73) hx hb dX8_fail_37 (by decide) (fun c_5 => ?_) (fun c_5 => ?_)
    · have fc_5 := neq_f c_5
      have b_6 : bd 1 7 x_4 := neX fc_5 bx_4 kb_0 (by decide)
      refine lv_aload_n hx hb dX8_fail_73 rfl (lv_at hl 1 rfl) ?_
      refine lv_sipush (v := 1201) hx hb dX8_fail_74 (by decide) ?_
      have kb_1201 : bd 1201 1201 (1201 : Int32) := ⟨by decide, by decide⟩
      refine g_put (C := RX8) (T := TX8) (N := 10) hx hb hts (mc_ inX8) tyX8 tyX8_ok nmX8 hown hK g ma0_ ka0_ (by decide) rfl 6 (by decide) (hts _ (List.mem_cons_of_mem _ t_291)) (fun _ h9 => h9) rfl rfl (okV_i (bd_sub kb_1201 (by decide))) rfl rfl (by decide) (Or.inr (Or.inl (by decide))) (fx' := [(8, 8, a0_, .int x_4)]) rfl dX8_fail_77 (fun f H locs hM_7 g => ?_)
      subst hQ
      exact W.vret hx hb hr (fun t ht hW => ⟨⟨_, rfl, ⟨x_4, b_6, (g.fcts [0, 1] rfl)⟩, q3_of g hK ht hW⟩, g.2.2.1.F ht⟩) g.2.2.1.2.2 dX8_fail_80
    · have fc_5 := eq_f c_5
      have b_8 : bd 0 0 x_4 := eqX fc_5 bx_4 kb_0 (by decide)
      refine lv_aload_n hx hb dX8_fail_40 rfl (lv_at hl 1 rfl) ?_
      refine lv_iload_n hx hb dX8_fail_41 rfl (lv_at hl 0 rfl) ?_
      refine lv_if_eq (tgt := 49) hx hb dX8_fail_42 (by decide) (fun c_ => ?_) (fun c_ => absurd (by decide) c_)
      refine lv_iload_n hx hb dX8_fail_49 rfl (lv_at hl 2 rfl) ?_
      refine g_put (C := RX8) (T := TX8) (N := 10) hx hb hts (mc_ inX8) tyX8 tyX8_ok nmX8 hown hK g ma0_ ka0_ (by decide) rfl 8 (by decide) (hts _ (List.mem_cons_of_mem _ t_295)) (fun _ h9 => h9) rfl rfl (okV_i (bd_sub bx1_ (by decide))) rfl rfl (by decide) (Or.inr (Or.inr (st_of bx1_ (by decide)))) (fx' := [(8, 6, a0_, .int x_1)]) rfl dX8_fail_50 (fun f H locs hM_9 g => ?_)
      refine lv_aload_n hx hb dX8_fail_53 rfl (lv_at hl 1 rfl) ?_
      refine lv_iload_n hx hb dX8_fail_54 rfl (lv_at hl 0 rfl) ?_
      refine lv_if_eq (tgt := 69) hx hb dX8_fail_55 (by decide) (fun c_ => ?_) (fun c_ => absurd (by decide) c_)
      refine lv_iload_n hx hb dX8_fail_69 rfl (lv_at hl 3 rfl) ?_
      refine g_put (C := RX8) (T := TX8) (N := 10) hx hb hts (mc_ inX8) tyX8 tyX8_ok nmX8 hown hK g ma0_ ka0_ (by decide) rfl 9 (by decide) (hts _ (List.mem_cons_of_mem _ t_296)) (fun _ h9 => h9) rfl rfl (okV_i (bdT x2_)) rfl rfl (by decide) (Or.inr (Or.inl (by decide))) (fx' := [(8, 8, a0_, .int x1_), (8, 6, a0_, .int x_1)]) rfl dX8_fail_70 (fun f H locs hM_10 g => ?_)
      refine lv_aload_n hx hb dX8_fail_73 rfl (lv_at hl 1 rfl) ?_
      refine lv_sipush (v := 1201) hx hb dX8_fail_74 (by decide) ?_
      have kb_1201 : bd 1201 1201 (1201 : Int32) := ⟨by decide, by decide⟩
      refine g_put (C := RX8) (T := TX8) (N := 10) hx hb hts (mc_ inX8) tyX8 tyX8_ok nmX8 hown hK g ma0_ ka0_ (by decide) rfl 6 (by decide) (hts _ (List.mem_cons_of_mem _ t_291)) (fun _ h9 => h9) rfl rfl (okV_i (bd_sub kb_1201 (by decide))) rfl rfl (by decide) (Or.inr (Or.inl (by decide))) (fx' := [(8, 9, a0_, .int x2_), (8, 8, a0_, .int x1_)]) rfl dX8_fail_77 (fun f H locs hM_11 g => ?_)
      subst hQ
      exact W.vret hx hb hr (fun t ht hW => ⟨⟨_, rfl, ⟨x1_, (bd_sub bx1_ (by decide)), (g.fcts [0, 2] rfl)⟩, q3_of g hK ht hW⟩, g.2.2.1.F ht⟩) g.2.2.1.2.2 dX8_fail_80
  · have fc_2 := nle_f c_2
    have b_12 : bd 1201 1201 x_1 := ltR fc_2 kb_1200 bx_1 (by decide)
    refine lv_iload_n hx hb dX8_fail_10 rfl (lv_at hl 1 rfl) ?_
    refine lv_iconst (v := 4) hx hb dX8_fail_11 (by decide) ?_
    have kb_4 : bd 4 4 (4 : Int32) := ⟨by decide, by decide⟩
    refine lv_icmp_gt (tgt := 27) hx hb dX8_fail_12 (by decide) (fun c_13 => ?_) (fun c_13 => ?_)
    · have fc_13 := lt_f c_13
      have b_14 : bd 4 0 (4 : Int32) := ltL fc_13 kb_4 bx1_ (by decide)
      exact bd_no (eqX rfl b_14 kb_4 (lo := 4) (hi := 0) (by decide)) (by decide)
    · have fc_13 := nlt_f c_13
      refine lv_iload_n hx hb dX8_fail_15 rfl (lv_at hl 2 rfl) ?_
      refine lv_aload_n hx hb dX8_fail_16 rfl (lv_at hl 0 rfl) ?_
      refine g_getr (K := 149) (C := RX8) (T := TX8) (N := 10) hx hb hts (mc_ inX8) hown hK g ma0_ ka0_ (by decide) rfl 1 (by decide) rfl (hts _ (List.mem_cons_of_mem _ t_286)) (fun _ h9 => h9) rfl dX8_fail_17 (fun a_15 ma_15 ka_15 g => ?_)
      refine lv_sipush (v := 1200) hx hb dX8_fail_20 (by decide) ?_
      refine g_iald hx hb hK g ma_15 ka_15 (by decide) rfl (by unfold vp_in; decide) dX8_fail_23 (fun x_16 bx_16 cx_16 => ?_)
      refine lv_icmp_eq (tgt := 31) hx hb dX8_fail_24 (by decide) (fun c_17 => ?_) (fun c_17 => ?_)
      · have fc_17 := eq_f c_17
        refine lv_iconst (v := 0) hx hb dX8_fail_31 (by decide) ?_
        refine lv_istore_n (lv' := [(3, .int 0), (0, .ref a0_), (1, .int x1_), (2, .int x2_)]) hx hb dX8_fail_32 rfl hl (by decide) rfl (fun ls hl => ?_)
        refine lv_aload_n hx hb dX8_fail_33 rfl (lv_at hl 1 rfl) ?_
        refine g_geti (C := RX8) (T := TX8) (N := 10) hx hb hts (mc_ inX8) hown hK g ma0_ ka0_ (by decide) rfl 8 (by decide) rfl (hts _ (List.mem_cons_of_mem _ t_295)) (fun _ h9 => h9) rfl dX8_fail_34 (fun x_18 bx_18 g => ?_)
        have kb_0 : bd 0 0 (0 : Int32) := ⟨by decide, by decide⟩
        refine lv_if_ne (tgt := 73) hx hb dX8_fail_37 (by decide) (fun c_19 => ?_) (fun c_19 => ?_)
        · have fc_19 := neq_f c_19
          have b_20 : bd 1 7 x_18 := neX fc_19 bx_18 kb_0 (by decide)
          refine lv_aload_n hx hb dX8_fail_73 rfl (lv_at hl 1 rfl) ?_
          refine lv_sipush (v := 1201) hx hb dX8_fail_74 (by decide) ?_
          have kb_1201 : bd 1201 1201 (1201 : Int32) := ⟨by decide, by decide⟩
          refine g_put (C := RX8) (T := TX8) (N := 10) hx hb hts (mc_ inX8) tyX8 tyX8_ok nmX8 hown hK g ma0_ ka0_ (by decide) rfl 6 (by decide) (hts _ (List.mem_cons_of_mem _ t_291)) (fun _ h9 => h9) rfl rfl (okV_i (bd_sub kb_1201 (by decide))) rfl rfl (by decide) (Or.inr (Or.inl (by decide))) (fx' := [(8, 8, a0_, .int x_18), (8, 1, a0_, .ref a_15)]) rfl dX8_fail_77 (fun f H locs hM_21 g => ?_)
          subst hQ
          exact W.vret hx hb hr (fun t ht hW => ⟨⟨_, rfl, ⟨x_18, b_20, (g.fcts [0, 1] rfl)⟩, q3_of g hK ht hW⟩, g.2.2.1.F ht⟩) g.2.2.1.2.2 dX8_fail_80
        · have fc_19 := eq_f c_19
          have b_22 : bd 0 0 x_18 := eqX fc_19 bx_18 kb_0 (by decide)
          refine lv_aload_n hx hb dX8_fail_40 rfl (lv_at hl 1 rfl) ?_
          refine lv_iload_n hx hb dX8_fail_41 rfl (lv_at hl 0 rfl) ?_
          refine lv_if_eq (tgt := 49) hx hb dX8_fail_42 (by decide) (fun c_ => ?_) (fun c_ => absurd (by decide) c_)
          refine lv_iload_n hx hb dX8_fail_49 rfl (lv_at hl 2 rfl) ?_
          refine g_put (C := RX8) (T := TX8) (N := 10) hx hb hts (mc_ inX8) tyX8 tyX8_ok nmX8 hown hK g ma0_ ka0_ (by decide) rfl 8 (by decide) (hts _ (List.mem_cons_of_mem _ t_295)) (fun _ h9 => h9) rfl rfl (okV_i (bd_sub bx1_ (by decide))) rfl rfl (by decide) (Or.inr (Or.inr (st_of bx1_ (by decide)))) (fx' := [(8, 1, a0_, .ref a_15), (8, 6, a0_, .int x_1)]) rfl dX8_fail_50 (fun f H locs hM_23 g => ?_)
          refine lv_aload_n hx hb dX8_fail_53 rfl (lv_at hl 1 rfl) ?_
          refine lv_iload_n hx hb dX8_fail_54 rfl (lv_at hl 0 rfl) ?_
          refine lv_if_eq (tgt := 69) hx hb dX8_fail_55 (by decide) (fun c_ => ?_) (fun c_ => absurd (by decide) c_)
          refine lv_iload_n hx hb dX8_fail_69 rfl (lv_at hl 3 rfl) ?_
          refine g_put (C := RX8) (T := TX8) (N := 10) hx hb hts (mc_ inX8) tyX8 tyX8_ok nmX8 hown hK g ma0_ ka0_ (by decide) rfl 9 (by decide) (hts _ (List.mem_cons_of_mem _ t_296)) (fun _ h9 => h9) rfl rfl (okV_i (bdT x2_)) rfl rfl (by decide) (Or.inr (Or.inl (by decide))) (fx' := [(8, 8, a0_, .int x1_), (8, 1, a0_, .ref a_15), (8, 6, a0_, .int x_1)]) rfl dX8_fail_70 (fun f H locs hM_24 g => ?_)
          refine lv_aload_n hx hb dX8_fail_73 rfl (lv_at hl 1 rfl) ?_
          refine lv_sipush (v := 1201) hx hb dX8_fail_74 (by decide) ?_
          have kb_1201 : bd 1201 1201 (1201 : Int32) := ⟨by decide, by decide⟩
          refine g_put (C := RX8) (T := TX8) (N := 10) hx hb hts (mc_ inX8) tyX8 tyX8_ok nmX8 hown hK g ma0_ ka0_ (by decide) rfl 6 (by decide) (hts _ (List.mem_cons_of_mem _ t_291)) (fun _ h9 => h9) rfl rfl (okV_i (bd_sub kb_1201 (by decide))) rfl rfl (by decide) (Or.inr (Or.inl (by decide))) (fx' := [(8, 9, a0_, .int x2_), (8, 8, a0_, .int x1_), (8, 1, a0_, .ref a_15)]) rfl dX8_fail_77 (fun f H locs hM_25 g => ?_)
          subst hQ
          exact W.vret hx hb hr (fun t ht hW => ⟨⟨_, rfl, ⟨x1_, (bd_sub bx1_ (by decide)), (g.fcts [0, 2] rfl)⟩, q3_of g hK ht hW⟩, g.2.2.1.F ht⟩) g.2.2.1.2.2 dX8_fail_80
      · have fc_17 := neq_f c_17
        refine lv_iconst (v := 1) hx hb dX8_fail_27 (by decide) ?_
        refine lv_goto (tgt := 32) hx hb dX8_fail_28 (by decide) ?_
        refine lv_istore_n (lv' := [(3, .int 1), (0, .ref a0_), (1, .int x1_), (2, .int x2_)]) hx hb dX8_fail_32 rfl hl (by decide) rfl (fun ls hl => ?_)
        refine lv_aload_n hx hb dX8_fail_33 rfl (lv_at hl 1 rfl) ?_
        refine g_geti (C := RX8) (T := TX8) (N := 10) hx hb hts (mc_ inX8) hown hK g ma0_ ka0_ (by decide) rfl 8 (by decide) rfl (hts _ (List.mem_cons_of_mem _ t_295)) (fun _ h9 => h9) rfl dX8_fail_34 (fun x_26 bx_26 g => ?_)
        have kb_0 : bd 0 0 (0 : Int32) := ⟨by decide, by decide⟩
        refine lv_if_ne (tgt := 73) hx hb dX8_fail_37 (by decide) (fun c_27 => ?_) (fun c_27 => ?_)
        · have fc_27 := neq_f c_27
          have b_28 : bd 1 7 x_26 := neX fc_27 bx_26 kb_0 (by decide)
          refine lv_aload_n hx hb dX8_fail_73 rfl (lv_at hl 1 rfl) ?_
          refine lv_sipush (v := 1201) hx hb dX8_fail_74 (by decide) ?_
          have kb_1201 : bd 1201 1201 (1201 : Int32) := ⟨by decide, by decide⟩
          refine g_put (C := RX8) (T := TX8) (N := 10) hx hb hts (mc_ inX8) tyX8 tyX8_ok nmX8 hown hK g ma0_ ka0_ (by decide) rfl 6 (by decide) (hts _ (List.mem_cons_of_mem _ t_291)) (fun _ h9 => h9) rfl rfl (okV_i (bd_sub kb_1201 (by decide))) rfl rfl (by decide) (Or.inr (Or.inl (by decide))) (fx' := [(8, 8, a0_, .int x_26), (8, 1, a0_, .ref a_15)]) rfl dX8_fail_77 (fun f H locs hM_29 g => ?_)
          subst hQ
          exact W.vret hx hb hr (fun t ht hW => ⟨⟨_, rfl, ⟨x_26, b_28, (g.fcts [0, 1] rfl)⟩, q3_of g hK ht hW⟩, g.2.2.1.F ht⟩) g.2.2.1.2.2 dX8_fail_80
        · have fc_27 := eq_f c_27
          have b_30 : bd 0 0 x_26 := eqX fc_27 bx_26 kb_0 (by decide)
          refine lv_aload_n hx hb dX8_fail_40 rfl (lv_at hl 1 rfl) ?_
          refine lv_iload_n hx hb dX8_fail_41 rfl (lv_at hl 0 rfl) ?_
          refine lv_if_eq (tgt := 49) hx hb dX8_fail_42 (by decide) (fun c_ => absurd c_ (by decide)) (fun c_ => ?_)
          refine lv_iconst (v := 4) hx hb dX8_fail_45 (by decide) ?_
          refine lv_goto (tgt := 50) hx hb dX8_fail_46 (by decide) ?_
          refine g_put (C := RX8) (T := TX8) (N := 10) hx hb hts (mc_ inX8) tyX8 tyX8_ok nmX8 hown hK g ma0_ ka0_ (by decide) rfl 8 (by decide) (hts _ (List.mem_cons_of_mem _ t_295)) (fun _ h9 => h9) rfl rfl (okV_i (bd_sub kb_4 (by decide))) rfl rfl (by decide) (Or.inr (Or.inr (st_of kb_4 (by decide)))) (fx' := [(8, 1, a0_, .ref a_15), (8, 6, a0_, .int x_1)]) rfl dX8_fail_50 (fun f H locs hM_31 g => ?_)
          refine lv_aload_n hx hb dX8_fail_53 rfl (lv_at hl 1 rfl) ?_
          refine lv_iload_n hx hb dX8_fail_54 rfl (lv_at hl 0 rfl) ?_
          refine lv_if_eq (tgt := 69) hx hb dX8_fail_55 (by decide) (fun c_ => absurd c_ (by decide)) (fun c_ => ?_)
          refine lv_aload_n hx hb dX8_fail_58 rfl (lv_at hl 1 rfl) ?_
          refine g_getk (C := RX8) (T := TX8) (N := 10) hx hb hts (mc_ inX8) hown hK g rfl 1 (by decide) rfl (hts _ (List.mem_cons_of_mem _ t_286)) (fun _ h9 => h9) 1 rfl dX8_fail_59 ?_
          refine lv_sipush (v := 1200) hx hb dX8_fail_62 (by decide) ?_
          refine g_iald hx hb hK g ma_15 ka_15 (by decide) rfl (by unfold vp_in; decide) dX8_fail_65 (fun x_32 bx_32 cx_32 => ?_)
          obtain rfl : x_16 = x_32 := el_same cx_16 cx_32 (arr_eq hM_31 ma_15 ka_15 (by decide) rfl)
          refine lv_goto (tgt := 70) hx hb dX8_fail_66 (by decide) ?_
          refine g_put (C := RX8) (T := TX8) (N := 10) hx hb hts (mc_ inX8) tyX8 tyX8_ok nmX8 hown hK g ma0_ ka0_ (by decide) rfl 9 (by decide) (hts _ (List.mem_cons_of_mem _ t_296)) (fun _ h9 => h9) rfl rfl (okV_i (bdT x_16)) rfl rfl (by decide) (Or.inr (Or.inl (by decide))) (fx' := [(8, 8, a0_, .int 4), (8, 1, a0_, .ref a_15), (8, 6, a0_, .int x_1)]) rfl dX8_fail_70 (fun f H locs hM_33 g => ?_)
          refine lv_aload_n hx hb dX8_fail_73 rfl (lv_at hl 1 rfl) ?_
          refine lv_sipush (v := 1201) hx hb dX8_fail_74 (by decide) ?_
          have kb_1201 : bd 1201 1201 (1201 : Int32) := ⟨by decide, by decide⟩
          refine g_put (C := RX8) (T := TX8) (N := 10) hx hb hts (mc_ inX8) tyX8 tyX8_ok nmX8 hown hK g ma0_ ka0_ (by decide) rfl 6 (by decide) (hts _ (List.mem_cons_of_mem _ t_291)) (fun _ h9 => h9) rfl rfl (okV_i (bd_sub kb_1201 (by decide))) rfl rfl (by decide) (Or.inr (Or.inl (by decide))) (fx' := [(8, 9, a0_, .int x_16), (8, 8, a0_, .int 4), (8, 1, a0_, .ref a_15)]) rfl dX8_fail_77 (fun f H locs hM_34 g => ?_)
          subst hQ
          exact W.vret hx hb hr (fun t ht hW => ⟨⟨_, rfl, ⟨4, (bd_sub kb_4 (by decide)), (g.fcts [0, 2] rfl)⟩, q3_of g hK ht hW⟩, g.2.2.1.F ht⟩) g.2.2.1.2.2 dX8_fail_80
set_option maxHeartbeats 4000000 in
set_option maxRecDepth 100000 in
theorem r_X8_take (l : Launch) (dC : Nat → ClassId) (dI : Nat → Nat → Nat) (L : List Nat) (kd : Nat → Nat) (tys : List (ClassId × FieldType)) (f0 : Nat → va_E) (sz : Nat) (hWT : WT L kd tys f0) (a0_ : Nat) (ma0_ : a0_ ∈ L) (ka0_ : kd a0_ = 8) (x1_ : Int32) : Met l yX8_take (.code yX8_take cX8_take 2 none :: lw_g) ({ frames := 1, cells := 0, slots := 0, locals := 23 }) (va_Pc [.ref a0_, .int x1_] (P3 (dC, dI) L tys f0 sz)) (va_Qv (fun (f : Nat → va_E) => (∃ z1_ : Int32, bd 1 7 z1_ ∧ Fs L kd f [(8, 6, a0_, .int 1201), (8, 8, a0_, .int z1_)]) ∨ (∃ z0_ : Int32, bd 1 1201 z0_ ∧ Fs L kd f [(8, 6, a0_, .int z0_)])) (Q3 (dC, dI) L kd tys [(8, 6), (8, 8), (8, 9)] [] f0 sz) (pA L sz)) 0 0 (pA L sz) := by
  refine Met.ofW (cc := cX8_take) (maxL := 2) (ret := none) (by decide) rfl ?_
  intro p e s m args below meth c s₁ B hml hv
  obtain ⟨rfl, hsz, hP, hK, hD0⟩ := hv
  have hx := B.exec
  have hb := B.bytes
  have hr := B.returns
  have hts := atoms_spec (ws := (.code yX8_take cX8_take 2 none :: lw_g)) B.pre
  have hown : s.vm.findClass RX8 = some m.cls := findClass_of_methodNamed B.named
  have hlocks := B.notSynchronized
  subst hsz
  have g : G3 (dC, dI) L kd tys s f0 [(8, 6), (8, 8), (8, 9)] [] f0 s.heap [] [] := G3.start hP hD0 hWT Fs.nil
  have hl := lv_entry ([.ref a0_, .int x1_]) (n := 2) (Nat.le_of_ble_eq_true rfl)
  rw [lg_entry_eq]
  generalize (lg_sl ([.ref a0_, .int x1_]) ++ List.replicate (2 - (lg_sl ([.ref a0_, .int x1_])).length) Slot.unset).toArray = ls at hl ⊢
  have hl : lv_has ls 2 [(0, .ref a0_), (1, .int x1_)] := hl
  refine W_q (fun Q hQ => ?_)
  refine lv_aload_n hx hb dX8_take_0 rfl (lv_at hl 0 rfl) ?_
  refine g_getr (K := 148) (C := RX8) (T := TX8) (N := 10) hx hb hts (mc_ inX8) hown hK g ma0_ ka0_ (by decide) rfl 0 (by decide) rfl (hts _ (List.mem_cons_of_mem _ t_285)) (fun _ h9 => h9) rfl dX8_take_1 (fun a_1 ma_1 ka_1 g => ?_)
  refine lv_aload_n hx hb dX8_take_4 rfl (lv_at hl 0 rfl) ?_
  refine g_geti (C := RX8) (T := TX8) (N := 10) hx hb hts (mc_ inX8) hown hK g ma0_ ka0_ (by decide) rfl 6 (by decide) rfl (hts _ (List.mem_cons_of_mem _ t_291)) (fun _ h9 => h9) rfl dX8_take_5 (fun x_2 bx_2 g => ?_)
  refine g_kald hx hb hK g ma_1 ka_1 (by decide) rfl (in_bd bx_2 (by decide)) dX8_take_8 (fun x_3 bx_3 cx_3 zx_3 => ?_)
  refine lv_iload_n hx hb dX8_take_9 rfl (lv_at hl 1 rfl) ?_
  refine lv_icmp_ne (tgt := 20) hx hb dX8_take_10 (by decide) (fun c_4 => ?_) (fun c_4 => ?_)
  · have fc_4 := neq_f c_4
    refine lv_aload_n hx hb dX8_take_20 rfl (lv_at hl 0 rfl) ?_
    refine lv_iconst (v := 1) hx hb dX8_take_21 (by decide) ?_
    refine lv_aload_n hx hb dX8_take_22 rfl (lv_at hl 0 rfl) ?_
    refine g_getr (K := 149) (C := RX8) (T := TX8) (N := 10) hx hb hts (mc_ inX8) hown hK g ma0_ ka0_ (by decide) rfl 1 (by decide) rfl (hts _ (List.mem_cons_of_mem _ t_286)) (fun _ h9 => h9) rfl dX8_take_23 (fun a_5 ma_5 ka_5 g => ?_)
    refine lv_aload_n hx hb dX8_take_26 rfl (lv_at hl 0 rfl) ?_
    refine g_getk (C := RX8) (T := TX8) (N := 10) hx hb hts (mc_ inX8) hown hK g rfl 6 (by decide) rfl (hts _ (List.mem_cons_of_mem _ t_291)) (fun _ h9 => h9) 1 rfl dX8_take_27 ?_
    refine g_iald hx hb hK g ma_5 ka_5 (by decide) rfl (in_bd bx_2 (by decide)) dX8_take_30 (fun x_6 bx_6 cx_6 => ?_)
    have kb_1 : bd 1 1 (1 : Int32) := ⟨by decide, by decide⟩
    refine g_callv (va_runV (As := [.int 1, .int x_6]) (rest := []) ⟨hx, hb, hml, hown, hts⟩ (r_X8_fail_7 l dC dI L kd tys f0 s.heap.size g.2.2.2.1 a0_ ma0_ ka0_ 1 kb_1 x_6) (cwV 2 hts (gV_ t_1106 t_1107 t_1108 t_184 t_1109) rfl rfl rfl (by decide +kernel) ⟨(Nat.le_of_ble_eq_true rfl), (Nat.le_of_ble_eq_true rfl)⟩) (pre3V g hK ma0_ ka0_ (by decide) (q := (RX8, TX8, 10)) rfl) rfl rfl hl.1 rfl (lv_room (Nat.le_of_ble_eq_true rfl)) dX8_take_31 ⟨(Nat.le_of_ble_eq_true rfl), (Nat.le_of_ble_eq_true rfl)⟩) g hK (by decide) (by decide) (fx' := [(8, 1, a0_, .ref a_5), (8, 0, a0_, .ref a_1)]) rfl (fun fr_7 H locs hp hMr_7 g => ?_)
    obtain ⟨x_8, h_9, hF_10⟩ := hp
    have g := g.more hF_10
    subst hQ
    exact W.vret hx hb hr (fun t ht hW => ⟨⟨_, rfl, Or.inl ⟨x_8, h_9, (g.fcts [0, 1] rfl)⟩, q3_of g hK ht hW⟩, g.2.2.1.F ht⟩) g.2.2.1.2.2 dX8_take_34
  · have fc_4 := eq_f c_4
    refine lv_aload_n hx hb dX8_take_13 rfl (lv_at hl 0 rfl) ?_
    refine g_callv (va_runV (As := []) (rest := []) ⟨hx, hb, hml, hown, hts⟩ (r_X8_next l dC dI L kd tys f0 s.heap.size g.2.2.2.1 a0_ ma0_ ka0_) (cwV 0 hts (gV_ t_1102 t_1103 t_1104 t_184 t_1105) rfl rfl rfl (by decide +kernel) ⟨(Nat.le_of_ble_eq_true rfl), (Nat.le_of_ble_eq_true rfl)⟩) (pre3V g hK ma0_ ka0_ (by decide) (q := (RX8, TX8, 10)) rfl) rfl rfl hl.1 rfl (lv_room (Nat.le_of_ble_eq_true rfl)) dX8_take_14 ⟨(Nat.le_of_ble_eq_true rfl), (Nat.le_of_ble_eq_true rfl)⟩) g hK (by decide) (by decide) (fx' := [(8, 0, a0_, .ref a_1)]) rfl (fun fr_11 H locs hp hMr_11 g => ?_)
    obtain ⟨x_12, h_13, hF_14⟩ := hp
    have g := g.more hF_14
    refine lv_goto (tgt := 34) hx hb dX8_take_17 (by decide) ?_
    subst hQ
    exact W.vret hx hb hr (fun t ht hW => ⟨⟨_, rfl, Or.inr (⟨x_12, h_13, (g.fcts [0] rfl)⟩), q3_of g hK ht hW⟩, g.2.2.1.F ht⟩) g.2.2.1.2.2 dX8_take_34
set_option maxHeartbeats 4000000 in
set_option maxRecDepth 100000 in
theorem r_X8_fail_8 (l : Launch) (dC : Nat → ClassId) (dI : Nat → Nat → Nat) (L : List Nat) (kd : Nat → Nat) (tys : List (ClassId × FieldType)) (f0 : Nat → va_E) (sz : Nat) (hWT : WT L kd tys f0) (a0_ : Nat) (ma0_ : a0_ ∈ L) (ka0_ : kd a0_ = 8) (x1_ : Int32) (bx1_ : bd 1 1 x1_) (x2_ : Int32) (y0_ : Int32) (by0_ : bd 1 7 y0_) (hfx : Fs L kd f0 [(8, 8, a0_, .int y0_)]) : Met l yX8_fail (.code yX8_fail cX8_fail 4 none :: lw_g) ({ frames := 0, cells := 0, slots := 0, locals := 0 }) (va_Pc [.ref a0_, .int x1_, .int x2_] (P3 (dC, dI) L tys f0 sz)) (va_Qv (fun (f : Nat → va_E) => (Fs L kd f [(8, 6, a0_, .int 1201)])) (Q3 (dC, dI) L kd tys [(8, 6)] [] f0 sz) (pA L sz)) 0 0 (pA L sz) := by
  refine Met.ofW (cc := cX8_fail) (maxL := 4) (ret := none) (by decide) rfl ?_
  intro p e s m args below meth c s₁ B hml hv
  obtain ⟨rfl, hsz, hP, hK, hD0⟩ := hv
  have hx := B.exec
  have hb := B.bytes
  have hr := B.returns
  have hts := atoms_spec (ws := (.code yX8_fail cX8_fail 4 none :: lw_g)) B.pre
  have hown : s.vm.findClass RX8 = some m.cls := findClass_of_methodNamed B.named
  have hlocks := B.notSynchronized
  subst hsz
  have g : G3 (dC, dI) L kd tys s f0 [(8, 6)] [] f0 s.heap [] [(8, 8, a0_, .int y0_)] := G3.start hP hD0 hWT hfx
  have hl := lv_entry ([.ref a0_, .int x1_, .int x2_]) (n := 4) (Nat.le_of_ble_eq_true rfl)
  rw [lg_entry_eq]
  generalize (lg_sl ([.ref a0_, .int x1_, .int x2_]) ++ List.replicate (4 - (lg_sl ([.ref a0_, .int x1_, .int x2_])).length) Slot.unset).toArray = ls at hl ⊢
  have hl : lv_has ls 4 [(0, .ref a0_), (1, .int x1_), (2, .int x2_)] := hl
  refine W_q (fun Q hQ => ?_)
  refine lv_aload_n hx hb dX8_fail_0 rfl (lv_at hl 0 rfl) ?_
  refine g_geti (C := RX8) (T := TX8) (N := 10) hx hb hts (mc_ inX8) hown hK g ma0_ ka0_ (by decide) rfl 6 (by decide) rfl (hts _ (List.mem_cons_of_mem _ t_291)) (fun _ h9 => h9) rfl dX8_fail_1 (fun x_1 bx_1 g => ?_)
  refine lv_sipush (v := 1200) hx hb dX8_fail_4 (by decide) ?_
  have kb_1200 : bd 1200 1200 (1200 : Int32) := ⟨by decide, by decide⟩
  refine lv_icmp_le (tgt := 31) hx hb dX8_fail_7 (by decide) (fun c_2 => ?_) (fun c_2 => ?_)
  · have fc_2 := le_f c_2
    have b_3 : bd 0 1200 x_1 := leL fc_2 bx_1 kb_1200 (by decide)
    refine lv_iconst (v := 0) hx hb dX8_fail_31 (by decide) ?_
    refine lv_istore_n (lv' := [(3, .int 0), (0, .ref a0_), (1, .int x1_), (2, .int x2_)]) hx hb dX8_fail_32 rfl hl (by decide) rfl (fun ls hl => ?_)
    refine lv_aload_n hx hb dX8_fail_33 rfl (lv_at hl 1 rfl) ?_
    refine g_getk (C := RX8) (T := TX8) (N := 10) hx hb hts (mc_ inX8) hown hK g rfl 8 (by decide) rfl (hts _ (List.mem_cons_of_mem _ t_295)) (fun _ h9 => h9) 1 rfl dX8_fail_34 ?_
    have kb_0 : bd 0 0 (0 : Int32) := ⟨by decide, by decide⟩
    refine lv_if_ne (tgt := 73) hx hb dX8_fail_37 (by decide) (fun c_4 => ?_) (fun c_4 => ?_)
    · have fc_4 := neq_f c_4
      refine lv_aload_n hx hb dX8_fail_73 rfl (lv_at hl 1 rfl) ?_
      refine lv_sipush (v := 1201) hx hb dX8_fail_74 (by decide) ?_
      have kb_1201 : bd 1201 1201 (1201 : Int32) := ⟨by decide, by decide⟩
      refine g_put (C := RX8) (T := TX8) (N := 10) hx hb hts (mc_ inX8) tyX8 tyX8_ok nmX8 hown hK g ma0_ ka0_ (by decide) rfl 6 (by decide) (hts _ (List.mem_cons_of_mem _ t_291)) (fun _ h9 => h9) rfl rfl (okV_i (bd_sub kb_1201 (by decide))) rfl rfl (by decide) (Or.inr (Or.inl (by decide))) (fx' := [(8, 8, a0_, .int y0_)]) rfl dX8_fail_77 (fun f H locs hM_5 g => ?_)
      subst hQ
      exact W.vret hx hb hr (fun t ht hW => ⟨⟨_, rfl, (g.fcts [0] rfl), q3_of g hK ht hW⟩, g.2.2.1.F ht⟩) g.2.2.1.2.2 dX8_fail_80
    · have fc_4 := eq_f c_4
      have b_6 : bd 1 0 y0_ := eqX fc_4 by0_ kb_0 (by decide)
      exact bd_no b_6 (by decide)
  · have fc_2 := nle_f c_2
    have b_7 : bd 1201 1201 x_1 := ltR fc_2 kb_1200 bx_1 (by decide)
    refine lv_iload_n hx hb dX8_fail_10 rfl (lv_at hl 1 rfl) ?_
    refine lv_iconst (v := 4) hx hb dX8_fail_11 (by decide) ?_
    have kb_4 : bd 4 4 (4 : Int32) := ⟨by decide, by decide⟩
    refine lv_icmp_gt (tgt := 27) hx hb dX8_fail_12 (by decide) (fun c_8 => ?_) (fun c_8 => ?_)
    · have fc_8 := lt_f c_8
      have b_9 : bd 4 0 (4 : Int32) := ltL fc_8 kb_4 bx1_ (by decide)
      exact bd_no (eqX rfl b_9 kb_4 (lo := 4) (hi := 0) (by decide)) (by decide)
    · have fc_8 := nlt_f c_8
      refine lv_iload_n hx hb dX8_fail_15 rfl (lv_at hl 2 rfl) ?_
      refine lv_aload_n hx hb dX8_fail_16 rfl (lv_at hl 0 rfl) ?_
      refine g_getr (K := 149) (C := RX8) (T := TX8) (N := 10) hx hb hts (mc_ inX8) hown hK g ma0_ ka0_ (by decide) rfl 1 (by decide) rfl (hts _ (List.mem_cons_of_mem _ t_286)) (fun _ h9 => h9) rfl dX8_fail_17 (fun a_10 ma_10 ka_10 g => ?_)
      refine lv_sipush (v := 1200) hx hb dX8_fail_20 (by decide) ?_
      refine g_iald hx hb hK g ma_10 ka_10 (by decide) rfl (by unfold vp_in; decide) dX8_fail_23 (fun x_11 bx_11 cx_11 => ?_)
      refine lv_icmp_eq (tgt := 31) hx hb dX8_fail_24 (by decide) (fun c_12 => ?_) (fun c_12 => ?_)
      · have fc_12 := eq_f c_12
        refine lv_iconst (v := 0) hx hb dX8_fail_31 (by decide) ?_
        refine lv_istore_n (lv' := [(3, .int 0), (0, .ref a0_), (1, .int x1_), (2, .int x2_)]) hx hb dX8_fail_32 rfl hl (by decide) rfl (fun ls hl => ?_)
        refine lv_aload_n hx hb dX8_fail_33 rfl (lv_at hl 1 rfl) ?_
        refine g_getk (C := RX8) (T := TX8) (N := 10) hx hb hts (mc_ inX8) hown hK g rfl 8 (by decide) rfl (hts _ (List.mem_cons_of_mem _ t_295)) (fun _ h9 => h9) 2 rfl dX8_fail_34 ?_
        have kb_0 : bd 0 0 (0 : Int32) := ⟨by decide, by decide⟩
        refine lv_if_ne (tgt := 73) hx hb dX8_fail_37 (by decide) (fun c_13 => ?_) (fun c_13 => ?_)
        · have fc_13 := neq_f c_13
          refine lv_aload_n hx hb dX8_fail_73 rfl (lv_at hl 1 rfl) ?_
          refine lv_sipush (v := 1201) hx hb dX8_fail_74 (by decide) ?_
          have kb_1201 : bd 1201 1201 (1201 : Int32) := ⟨by decide, by decide⟩
          refine g_put (C := RX8) (T := TX8) (N := 10) hx hb hts (mc_ inX8) tyX8 tyX8_ok nmX8 hown hK g ma0_ ka0_ (by decide) rfl 6 (by decide) (hts _ (List.mem_cons_of_mem _ t_291)) (fun _ h9 => h9) rfl rfl (okV_i (bd_sub kb_1201 (by decide))) rfl rfl (by decide) (Or.inr (Or.inl (by decide))) (fx' := [(8, 1, a0_, .ref a_10), (8, 8, a0_, .int y0_)]) rfl dX8_fail_77 (fun f H locs hM_14 g => ?_)
          subst hQ
          exact W.vret hx hb hr (fun t ht hW => ⟨⟨_, rfl, (g.fcts [0] rfl), q3_of g hK ht hW⟩, g.2.2.1.F ht⟩) g.2.2.1.2.2 dX8_fail_80
        · have fc_13 := eq_f c_13
          have b_15 : bd 1 0 y0_ := eqX fc_13 by0_ kb_0 (by decide)
          exact bd_no b_15 (by decide)
      · have fc_12 := neq_f c_12
        refine lv_iconst (v := 1) hx hb dX8_fail_27 (by decide) ?_
        refine lv_goto (tgt := 32) hx hb dX8_fail_28 (by decide) ?_
        refine lv_istore_n (lv' := [(3, .int 1), (0, .ref a0_), (1, .int x1_), (2, .int x2_)]) hx hb dX8_fail_32 rfl hl (by decide) rfl (fun ls hl => ?_)
        refine lv_aload_n hx hb dX8_fail_33 rfl (lv_at hl 1 rfl) ?_
        refine g_getk (C := RX8) (T := TX8) (N := 10) hx hb hts (mc_ inX8) hown hK g rfl 8 (by decide) rfl (hts _ (List.mem_cons_of_mem _ t_295)) (fun _ h9 => h9) 2 rfl dX8_fail_34 ?_
        have kb_0 : bd 0 0 (0 : Int32) := ⟨by decide, by decide⟩
        refine lv_if_ne (tgt := 73) hx hb dX8_fail_37 (by decide) (fun c_16 => ?_) (fun c_16 => ?_)
        · have fc_16 := neq_f c_16
          refine lv_aload_n hx hb dX8_fail_73 rfl (lv_at hl 1 rfl) ?_
          refine lv_sipush (v := 1201) hx hb dX8_fail_74 (by decide) ?_
          have kb_1201 : bd 1201 1201 (1201 : Int32) := ⟨by decide, by decide⟩
          refine g_put (C := RX8) (T := TX8) (N := 10) hx hb hts (mc_ inX8) tyX8 tyX8_ok nmX8 hown hK g ma0_ ka0_ (by decide) rfl 6 (by decide) (hts _ (List.mem_cons_of_mem _ t_291)) (fun _ h9 => h9) rfl rfl (okV_i (bd_sub kb_1201 (by decide))) rfl rfl (by decide) (Or.inr (Or.inl (by decide))) (fx' := [(8, 1, a0_, .ref a_10), (8, 8, a0_, .int y0_)]) rfl dX8_fail_77 (fun f H locs hM_17 g => ?_)
          subst hQ
          exact W.vret hx hb hr (fun t ht hW => ⟨⟨_, rfl, (g.fcts [0] rfl), q3_of g hK ht hW⟩, g.2.2.1.F ht⟩) g.2.2.1.2.2 dX8_fail_80
        · have fc_16 := eq_f c_16
          have b_18 : bd 1 0 y0_ := eqX fc_16 by0_ kb_0 (by decide)
          exact bd_no b_18 (by decide)
