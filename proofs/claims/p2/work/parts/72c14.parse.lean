set_option maxHeartbeats 4000000 in
set_option maxRecDepth 100000 in
theorem r_X0_readName_2 (l : Launch) (dC : Nat → ClassId) (dI : Nat → Nat → Nat) (L : List Nat) (kd : Nat → Nat) (tys : List (ClassId × FieldType)) (f0 : Nat → va_E) (sz : Nat) (hWT : WT L kd tys f0) (a0_ : Nat) (ma0_ : a0_ ∈ L) (ka0_ : kd a0_ = 0) (q0_ : Nat) (mq0_ : q0_ ∈ L) (kq0_ : kd q0_ = 8) (q1_ : Nat) (mq1_ : q1_ ∈ L) (kq1_ : kd q1_ = 5) (q2_ : Nat) (mq2_ : q2_ ∈ L) (kq2_ : kd q2_ = 7) (q3_ : Nat) (mq3_ : q3_ ∈ L) (kq3_ : kd q3_ = 9) (y0_ : Int32) (by0_ : bd 0 0 y0_) (hGea0_ : eOK f0 a0_) (hfx : Fs L kd f0 [(0, 0, a0_, .ref q0_), (0, 1, a0_, .ref q1_), (0, 2, a0_, .ref q2_), (5, 1, q1_, .ref q3_), (8, 8, q0_, .int y0_)]) : Met l yX0_readName (.code yX0_readName cX0_readName 6 none :: lw_g) ({ frames := 2, cells := 0, slots := 0, locals := 50 }) (va_Pc [.ref a0_] (P3 (dC, dI) L tys f0 sz)) (va_Qv (fun (f : Nat → va_E) => (eOK f a0_ ∧ ∃ z0_ : Int32, bd 1 1201 z0_ ∧ Fs L kd f [(8, 6, q0_, .int z0_), (8, 8, q0_, .int y0_)]) ∨ (eOK f a0_ ∧ ∃ z0_ : Int32, bd 1201 1201 z0_ ∧ ∃ z1_ : Int32, bd 1 7 z1_ ∧ Fs L kd f [(8, 6, q0_, .int z0_), (8, 8, q0_, .int z1_)])) (Q3 (dC, dI) L kd tys [(0, 8), (0, 10), (0, 11), (0, 12), (7, 6), (7, 18), (8, 6), (8, 8), (8, 9)] [110, 111, 112, 113, 114, 115, 138, 139] f0 sz) (pA L sz)) 0 0 (pA L sz) := by
  refine Met.ofW (cc := cX0_readName) (maxL := 6) (ret := none) (by decide) rfl ?_
  intro p e s m args below meth c s₁ B hml hv
  obtain ⟨rfl, hsz, hP, hK, hD0⟩ := hv
  have hx := B.exec
  have hb := B.bytes
  have hr := B.returns
  have hts := atoms_spec (ws := (.code yX0_readName cX0_readName 6 none :: lw_g)) B.pre
  have hown : s.vm.findClass RX0 = some m.cls := findClass_of_methodNamed B.named
  have hlocks := B.notSynchronized
  subst hsz
  have g : G3 (dC, dI) L kd tys s f0 [(0, 8), (0, 10), (0, 11), (0, 12), (7, 6), (7, 18), (8, 6), (8, 8), (8, 9)] [110, 111, 112, 113, 114, 115, 138, 139] f0 s.heap [] [(0, 0, a0_, .ref q0_), (0, 1, a0_, .ref q1_), (0, 2, a0_, .ref q2_), (5, 1, q1_, .ref q3_), (8, 8, q0_, .int y0_)] := G3.start hP hD0 hWT hfx
  have hl := lv_entry ([.ref a0_]) (n := 6) (Nat.le_of_ble_eq_true rfl)
  rw [lg_entry_eq]
  generalize (lg_sl ([.ref a0_]) ++ List.replicate (6 - (lg_sl ([.ref a0_])).length) Slot.unset).toArray = ls at hl ⊢
  have hl : lv_has ls 6 [(0, .ref a0_)] := hl
  refine W_q (fun Q hQ => ?_)
  refine lv_aload_n hx hb dX0_readName_0 rfl (lv_at hl 0 rfl) ?_
  refine g_getk (C := RX0) (T := TX0) (N := 14) hx hb hts (mc_ inX0) hown hK g rfl 0 (by decide) rfl (hts _ (List.mem_cons_of_mem _ t_373)) (fun _ h9 => h9) 0 rfl dX0_readName_1 ?_
  have go_ := g
  refine g_calll (va_runV (As := []) (rest := []) ⟨hx, hb, hml, hown, hts⟩ (r_X8_value l dC dI L kd tys f0 s.heap.size g.2.2.2.1 q0_ mq0_ kq0_) (cwV 0 hts (gV_ t_1238 t_1115 t_1116 t_184 t_1117) rfl rfl rfl (by decide +kernel) ⟨(Nat.le_of_ble_eq_true rfl), (Nat.le_of_ble_eq_true rfl)⟩) (pre3V g hK mq0_ kq0_ (by decide) (q := (RX8, TX8, 10)) rfl) rfl rfl hl.1 rfl (lv_room (Nat.le_of_ble_eq_true rfl)) dX0_readName_4 ⟨(Nat.le_of_ble_eq_true rfl), (Nat.le_of_ble_eq_true rfl)⟩) g hK (by decide) (by decide) (fx' := [(0, 0, a0_, .ref q0_), (0, 1, a0_, .ref q1_), (0, 2, a0_, .ref q2_), (5, 1, q1_, .ref q3_), (8, 8, q0_, .int y0_)]) rfl (fun r_1 fr_1 H locs hp hMr_1 g => ?_)
  have hG_2 := eOK.frame hMr_1 go_.2.2.2.1 ma0_ ka0_ (by decide) (by decide) hGea0_
  refine lv_lstore_n (lv' := [(1, .long r_1), (0, .ref a0_)]) hx hb dX0_readName_7 rfl hl (by decide) rfl (fun ls hl => ?_)
  refine lv_aload_n hx hb dX0_readName_8 rfl (lv_at hl 1 rfl) ?_
  refine g_getk (C := RX0) (T := TX0) (N := 14) hx hb hts (mc_ inX0) hown hK g rfl 0 (by decide) rfl (hts _ (List.mem_cons_of_mem _ t_373)) (fun _ h9 => h9) 0 rfl dX0_readName_9 ?_
  have go_ := g
  refine g_calli (va_runV (As := []) (rest := []) ⟨hx, hb, hml, hown, hts⟩ (r_X8_place l dC dI L kd tys fr_1 H.size g.2.2.2.1 q0_ mq0_ kq0_) (cwV 0 hts (gV_ t_1220 t_1111 t_1112 t_184 t_1113) rfl rfl rfl (by decide +kernel) ⟨(Nat.le_of_ble_eq_true rfl), (Nat.le_of_ble_eq_true rfl)⟩) (pre3V g hK mq0_ kq0_ (by decide) (q := (RX8, TX8, 10)) rfl) rfl rfl hl.1 rfl (lv_room (Nat.le_of_ble_eq_true rfl)) dX0_readName_12 ⟨(Nat.le_of_ble_eq_true rfl), (Nat.le_of_ble_eq_true rfl)⟩) g hK (by decide) (by decide) (fx' := [(0, 0, a0_, .ref q0_), (0, 1, a0_, .ref q1_), (0, 2, a0_, .ref q2_), (5, 1, q1_, .ref q3_), (8, 8, q0_, .int y0_)]) rfl (fun r_3 fr_3 H locs hp hMr_3 g => ?_)
  have hG_4 := eOK.frame hMr_3 go_.2.2.2.1 ma0_ ka0_ (by decide) (by decide) hG_2
  refine lv_istore_n (lv' := [(3, .int r_3), (1, .long r_1), (0, .ref a0_)]) hx hb dX0_readName_15 rfl hl (by decide) rfl (fun ls hl => ?_)
  refine lv_aload_n hx hb dX0_readName_16 rfl (lv_at hl 2 rfl) ?_
  refine g_getk (C := RX0) (T := TX0) (N := 14) hx hb hts (mc_ inX0) hown hK g rfl 0 (by decide) rfl (hts _ (List.mem_cons_of_mem _ t_373)) (fun _ h9 => h9) 0 rfl dX0_readName_17 ?_
  have go_ := g
  refine g_callv (va_runV (As := []) (rest := []) ⟨hx, hb, hml, hown, hts⟩ (r_X8_next l dC dI L kd tys fr_3 H.size g.2.2.2.1 q0_ mq0_ kq0_) (cwV 0 hts (gV_ t_1225 t_1103 t_1104 t_184 t_1105) rfl rfl rfl (by decide +kernel) ⟨(Nat.le_of_ble_eq_true rfl), (Nat.le_of_ble_eq_true rfl)⟩) (pre3V g hK mq0_ kq0_ (by decide) (q := (RX8, TX8, 10)) rfl) rfl rfl hl.1 rfl (lv_room (Nat.le_of_ble_eq_true rfl)) dX0_readName_20 ⟨(Nat.le_of_ble_eq_true rfl), (Nat.le_of_ble_eq_true rfl)⟩) g hK (by decide) (by decide) (fx' := [(0, 0, a0_, .ref q0_), (0, 1, a0_, .ref q1_), (0, 2, a0_, .ref q2_), (5, 1, q1_, .ref q3_), (8, 8, q0_, .int y0_)]) rfl (fun fr_5 H locs hp hMr_5 g => ?_)
  obtain ⟨x_6, h_7, hF_8⟩ := hp
  have hG_9 := eOK.frame hMr_5 go_.2.2.2.1 ma0_ ka0_ (by decide) (by decide) hG_4
  have g := g.more hF_8
  refine lv_aload_n hx hb dX0_readName_23 rfl (lv_at hl 2 rfl) ?_
  refine g_getk (C := RX0) (T := TX0) (N := 14) hx hb hts (mc_ inX0) hown hK g rfl 0 (by decide) rfl (hts _ (List.mem_cons_of_mem _ t_373)) (fun _ h9 => h9) 1 rfl dX0_readName_24 ?_
  have go_ := g
  refine g_calli (va_runV (As := []) (rest := []) ⟨hx, hb, hml, hown, hts⟩ (r_X8_atBracket l dC dI L kd tys fr_5 H.size g.2.2.2.1 q0_ mq0_ kq0_) (cwV 0 hts (gV_ t_1239 t_1240 t_1241 t_184 t_1242) rfl rfl rfl (by decide +kernel) ⟨(Nat.le_of_ble_eq_true rfl), (Nat.le_of_ble_eq_true rfl)⟩) (pre3V g hK mq0_ kq0_ (by decide) (q := (RX8, TX8, 10)) rfl) rfl rfl hl.1 rfl (lv_room (Nat.le_of_ble_eq_true rfl)) dX0_readName_27 ⟨(Nat.le_of_ble_eq_true rfl), (Nat.le_of_ble_eq_true rfl)⟩) g hK (by decide) (by decide) (fx' := [(8, 6, q0_, .int x_6), (0, 0, a0_, .ref q0_), (0, 1, a0_, .ref q1_), (0, 2, a0_, .ref q2_), (5, 1, q1_, .ref q3_), (8, 8, q0_, .int y0_)]) rfl (fun r_10 fr_10 H locs hp hMr_10 g => ?_)
  obtain ⟨h_11, -⟩ := hp
  have hG_12 := eOK.frame hMr_10 go_.2.2.2.1 ma0_ ka0_ (by decide) (by decide) hG_9
  have kb_0 : bd 0 0 (0 : Int32) := ⟨by decide, by decide⟩
  refine lv_if_eq (tgt := 130) hx hb dX0_readName_30 (by decide) (fun c_13 => ?_) (fun c_13 => ?_)
  · have fc_13 := eq_f c_13
    have b_14 : bd 0 0 r_10 := eqX fc_13 h_11 kb_0 (by decide)
    refine lv_aload_n hx hb dX0_readName_130 rfl (lv_at hl 2 rfl) ?_
    refine g_getk (C := RX0) (T := TX0) (N := 14) hx hb hts (mc_ inX0) hown hK g rfl 1 (by decide) rfl (hts _ (List.mem_cons_of_mem _ t_374)) (fun _ h9 => h9) 2 rfl dX0_readName_131 ?_
    refine lv_lload_n hx hb dX0_readName_134 rfl (lv_at hl 1 rfl) ?_
    have go_ := g
    refine g_calli (va_runV (As := [.long r_1]) (rest := []) ⟨hx, hb, hml, hown, hts⟩ (r_X5_placeNamed l dC dI L kd tys fr_10 H.size g.2.2.2.1 q1_ mq1_ kq1_ r_1 q3_ mq3_ kq3_ (g.fcts [4] rfl)) (cwV 1 hts (gV_ t_1251 t_1252 t_1253 t_189 t_1254) rfl rfl rfl (by decide +kernel) ⟨(Nat.le_of_ble_eq_true rfl), (Nat.le_of_ble_eq_true rfl)⟩) (pre3V g hK mq1_ kq1_ (by decide) (q := (RX5, TX5, 9)) rfl) rfl rfl hl.1 rfl (lv_room (Nat.le_of_ble_eq_true rfl)) dX0_readName_135 ⟨(Nat.le_of_ble_eq_true rfl), (Nat.le_of_ble_eq_true rfl)⟩) g hK (by decide) (by decide) (fx' := [(8, 6, q0_, .int x_6), (0, 0, a0_, .ref q0_), (0, 1, a0_, .ref q1_), (0, 2, a0_, .ref q2_), (5, 1, q1_, .ref q3_), (8, 8, q0_, .int y0_)]) rfl (fun r_15 fr_15 H locs hp hMr_15 g => ?_)
    obtain ⟨h_16, -⟩ := hp
    have hG_17 := eOK.frame hMr_15 go_.2.2.2.1 ma0_ ka0_ (by decide) (by decide) hG_12
    refine lv_istore (lv' := [(4, .int r_15), (3, .int r_3), (1, .long r_1), (0, .ref a0_)]) hx hb dX0_readName_138 hl (by decide) rfl (fun ls hl => ?_)
    refine lv_iload hx hb dX0_readName_140 (lv_at hl 0 rfl) ?_
    refine lv_iconst (v := (-1)) hx hb dX0_readName_142 (by decide) ?_
    have kb_m1 : bd (-1) (-1) ((-1) : Int32) := ⟨by decide, by decide⟩
    refine lv_icmp_ne (tgt := 156) hx hb dX0_readName_143 (by decide) (fun c_18 => ?_) (fun c_18 => ?_)
    · have fc_18 := neq_f c_18
      have b_19 : bd 0 26 r_15 := neX fc_18 h_16 kb_m1 (by decide)
      refine lv_aload_n hx hb dX0_readName_156 rfl (lv_at hl 3 rfl) ?_
      refine g_getk (C := RX0) (T := TX0) (N := 14) hx hb hts (mc_ inX0) hown hK g rfl 2 (by decide) rfl (hts _ (List.mem_cons_of_mem _ t_375)) (fun _ h9 => h9) 3 rfl dX0_readName_157 ?_
      refine lv_dup hx hb dX0_readName_160 rfl ?_
      refine g_geti (C := RX7) (T := TX7) (N := 19) hx hb hts (mc_ inX7) hown hK g mq2_ kq2_ (by decide) rfl 18 (by decide) rfl (hts _ (List.mem_cons_of_mem _ t_681)) (fun _ h9 => h9) rfl dX0_readName_161 (fun x_20 bx_20 g => ?_)
      refine lv_iconst (v := 1) hx hb dX0_readName_164 (by decide) ?_
      have kb_1 : bd 1 1 (1 : Int32) := ⟨by decide, by decide⟩
      refine lv_iadd hx hb dX0_readName_165 ?_
      refine lv_topi (fun y_21 ey_21 => ?_)
      have go_ := g
      refine g_put (C := RX7) (T := TX7) (N := 19) hx hb hts (mc_ inX7) tyX7 tyX7_ok nmX7 hown hK g mq2_ kq2_ (by decide) rfl 18 (by decide) (hts _ (List.mem_cons_of_mem _ t_681)) (fun _ h9 => h9) rfl rfl (okV_i (bdT y_21)) rfl rfl (by decide) (Or.inr (Or.inl (by decide))) (fx' := [(8, 6, q0_, .int x_6), (0, 0, a0_, .ref q0_), (0, 1, a0_, .ref q1_), (0, 2, a0_, .ref q2_), (5, 1, q1_, .ref q3_), (8, 8, q0_, .int y0_)]) rfl dX0_readName_166 (fun f H locs hM_22 g => ?_)
      have hG_23 := eOK.frame hM_22 go_.2.2.2.1 ma0_ ka0_ (by decide) (by decide) hG_17
      refine lv_aload_n hx hb dX0_readName_169 rfl (lv_at hl 3 rfl) ?_
      refine g_getk (C := RX0) (T := TX0) (N := 14) hx hb hts (mc_ inX0) hown hK g rfl 1 (by decide) rfl (hts _ (List.mem_cons_of_mem _ t_374)) (fun _ h9 => h9) 3 rfl dX0_readName_170 ?_
      refine g_getk (C := RX5) (T := TX5) (N := 9) hx hb hts (mc_ inX5) hown hK g rfl 1 (by decide) rfl (hts _ (List.mem_cons_of_mem _ t_332)) (fun _ h9 => h9) 5 rfl dX0_readName_173 ?_
      refine lv_iload hx hb dX0_readName_176 (lv_at hl 0 rfl) ?_
      have go_ := g
      refine g_calli (va_runV (As := [.int r_15]) (rest := []) ⟨hx, hb, hml, hown, hts⟩ (r_X9_isRow l dC dI L kd tys f H.size g.2.2.2.1 q3_ mq3_ kq3_ r_15) (cwV 1 hts (gV_ t_1256 t_1257 t_1258 t_192 t_1259) rfl rfl rfl (by decide +kernel) ⟨(Nat.le_of_ble_eq_true rfl), (Nat.le_of_ble_eq_true rfl)⟩) (pre3V g hK mq3_ kq3_ (by decide) (q := (RX9, TX9, 13)) rfl) rfl rfl hl.1 rfl (lv_room (Nat.le_of_ble_eq_true rfl)) dX0_readName_178 ⟨(Nat.le_of_ble_eq_true rfl), (Nat.le_of_ble_eq_true rfl)⟩) g hK (by decide) (by decide) (fx' := [(7, 18, q2_, .int y_21), (8, 6, q0_, .int x_6), (0, 0, a0_, .ref q0_), (0, 1, a0_, .ref q1_), (0, 2, a0_, .ref q2_), (5, 1, q1_, .ref q3_), (8, 8, q0_, .int y0_)]) rfl (fun r_24 fr_24 H locs hp hMr_24 g => ?_)
      rcases hp with ⟨h_25, -⟩ | ⟨h_26, h_27, x_28, h_29, hF_30⟩
      · have hG_31 := eOK.frame hMr_24 go_.2.2.2.1 ma0_ ka0_ (by decide) (by decide) hG_23
        obtain rfl : r_24 = 0 := h_25
        refine lv_aload_n hx hb dX0_readName_181 rfl (lv_at hl 3 rfl) ?_
        refine g_getk (C := RX0) (T := TX0) (N := 14) hx hb hts (mc_ inX0) hown hK g rfl 0 (by decide) rfl (hts _ (List.mem_cons_of_mem _ t_373)) (fun _ h9 => h9) 2 rfl dX0_readName_182 ?_
        have go_ := g
        refine g_calli (va_runV (As := []) (rest := [.int 0]) ⟨hx, hb, hml, hown, hts⟩ (r_X8_kind l dC dI L kd tys fr_24 H.size g.2.2.2.1 q0_ mq0_ kq0_) (cwV 0 hts (gV_ t_1186 t_1119 t_1120 t_184 t_1121) rfl rfl rfl (by decide +kernel) ⟨(Nat.le_of_ble_eq_true rfl), (Nat.le_of_ble_eq_true rfl)⟩) (pre3V g hK mq0_ kq0_ (by decide) (q := (RX8, TX8, 10)) rfl) rfl rfl hl.1 rfl (lv_room (Nat.le_of_ble_eq_true rfl)) dX0_readName_185 ⟨(Nat.le_of_ble_eq_true rfl), (Nat.le_of_ble_eq_true rfl)⟩) g hK (by decide) (by decide) (fx' := [(7, 18, q2_, .int y_21), (8, 6, q0_, .int x_6), (0, 0, a0_, .ref q0_), (0, 1, a0_, .ref q1_), (0, 2, a0_, .ref q2_), (5, 1, q1_, .ref q3_), (8, 8, q0_, .int y0_)]) rfl (fun r_32 fr_32 H locs hp hMr_32 g => ?_)
        have hG_33 := eOK.frame hMr_32 go_.2.2.2.1 ma0_ ka0_ (by decide) (by decide) hG_31
        refine lv_bipush (v := 91) hx hb dX0_readName_188 (by decide) ?_
        have kb_91 : bd 91 91 (91 : Int32) := ⟨by decide, by decide⟩
        refine lv_icmp_ne (tgt := 197) hx hb dX0_readName_190 (by decide) (fun c_34 => ?_) (fun c_34 => ?_)
        · have fc_34 := neq_f c_34
          refine lv_iconst (v := 0) hx hb dX0_readName_197 (by decide) ?_
          refine lv_icmp_eq (tgt := 213) hx hb dX0_readName_198 (by decide) (fun c_ => ?_) (fun c_ => absurd (by decide) c_)
          refine lv_aload_n hx hb dX0_readName_213 rfl (lv_at hl 3 rfl) ?_
          refine g_getk (C := RX0) (T := TX0) (N := 14) hx hb hts (mc_ inX0) hown hK g rfl 1 (by decide) rfl (hts _ (List.mem_cons_of_mem _ t_374)) (fun _ h9 => h9) 3 rfl dX0_readName_214 ?_
          refine g_getk (C := RX5) (T := TX5) (N := 9) hx hb hts (mc_ inX5) hown hK g rfl 1 (by decide) rfl (hts _ (List.mem_cons_of_mem _ t_332)) (fun _ h9 => h9) 5 rfl dX0_readName_217 ?_
          refine lv_iload hx hb dX0_readName_220 (lv_at hl 0 rfl) ?_
          have go_ := g
          refine g_calli (va_runV (As := [.int r_15]) (rest := []) ⟨hx, hb, hml, hown, hts⟩ (r_X9_isRow l dC dI L kd tys fr_32 H.size g.2.2.2.1 q3_ mq3_ kq3_ r_15) (cwV 1 hts (gV_ t_1256 t_1257 t_1258 t_192 t_1259) rfl rfl rfl (by decide +kernel) ⟨(Nat.le_of_ble_eq_true rfl), (Nat.le_of_ble_eq_true rfl)⟩) (pre3V g hK mq3_ kq3_ (by decide) (q := (RX9, TX9, 13)) rfl) rfl rfl hl.1 rfl (lv_room (Nat.le_of_ble_eq_true rfl)) dX0_readName_222 ⟨(Nat.le_of_ble_eq_true rfl), (Nat.le_of_ble_eq_true rfl)⟩) g hK (by decide) (by decide) (fx' := [(7, 18, q2_, .int y_21), (8, 6, q0_, .int x_6), (0, 0, a0_, .ref q0_), (0, 1, a0_, .ref q1_), (0, 2, a0_, .ref q2_), (5, 1, q1_, .ref q3_), (8, 8, q0_, .int y0_)]) rfl (fun r_35 fr_35 H locs hp hMr_35 g => ?_)
          rcases hp with ⟨h_36, -⟩ | ⟨h_37, h_38, x_39, h_40, hF_41⟩
          · have hG_42 := eOK.frame hMr_35 go_.2.2.2.1 ma0_ ka0_ (by decide) (by decide) hG_33
            obtain rfl : r_35 = 0 := h_36
            refine lv_if_eq (tgt := 239) hx hb dX0_readName_225 (by decide) (fun c_ => ?_) (fun c_ => absurd (by decide) c_)
            refine lv_iload hx hb dX0_readName_239 (lv_at hl 0 rfl) ?_
            refine lv_bipush (v := 16) hx hb dX0_readName_241 (by decide) ?_
            have kb_16 : bd 16 16 (16 : Int32) := ⟨by decide, by decide⟩
            refine lv_icmp_lt (tgt := 267) hx hb dX0_readName_243 (by decide) (fun c_43 => ?_) (fun c_43 => ?_)
            · have fc_43 := lt_f c_43
              have b_44 : bd 0 15 r_15 := ltL fc_43 b_19 kb_16 (by decide)
              refine lv_aload_n hx hb dX0_readName_267 rfl (lv_at hl 3 rfl) ?_
              refine g_getk (C := RX0) (T := TX0) (N := 14) hx hb hts (mc_ inX0) hown hK g rfl 2 (by decide) rfl (hts _ (List.mem_cons_of_mem _ t_375)) (fun _ h9 => h9) 4 rfl dX0_readName_268 ?_
              refine lv_iconst (v := 3) hx hb dX0_readName_271 (by decide) ?_
              refine lv_aload_n hx hb dX0_readName_272 rfl (lv_at hl 3 rfl) ?_
              refine g_getk (C := RX0) (T := TX0) (N := 14) hx hb hts (mc_ inX0) hown hK g rfl 1 (by decide) rfl (hts _ (List.mem_cons_of_mem _ t_374)) (fun _ h9 => h9) 3 rfl dX0_readName_273 ?_
              refine g_getk (C := RX5) (T := TX5) (N := 9) hx hb hts (mc_ inX5) hown hK g rfl 1 (by decide) rfl (hts _ (List.mem_cons_of_mem _ t_332)) (fun _ h9 => h9) 5 rfl dX0_readName_276 ?_
              refine lv_iload hx hb dX0_readName_279 (lv_at hl 0 rfl) ?_
              have go_ := g
              refine g_calli (va_runV (As := [.int r_15]) (rest := [.int 3, .ref q2_]) ⟨hx, hb, hml, hown, hts⟩ (r_X9_spanOf l dC dI L kd tys fr_35 H.size g.2.2.2.1 q3_ mq3_ kq3_ r_15) (cwV 1 hts (gV_ t_1264 t_1265 t_1266 t_192 t_1267) rfl rfl rfl (by decide +kernel) ⟨(Nat.le_of_ble_eq_true rfl), (Nat.le_of_ble_eq_true rfl)⟩) (pre3V g hK mq3_ kq3_ (by decide) (q := (RX9, TX9, 13)) rfl) rfl rfl hl.1 rfl (lv_room (Nat.le_of_ble_eq_true rfl)) dX0_readName_281 ⟨(Nat.le_of_ble_eq_true rfl), (Nat.le_of_ble_eq_true rfl)⟩) g hK (by decide) (by decide) (fx' := [(7, 18, q2_, .int y_21), (8, 6, q0_, .int x_6), (0, 0, a0_, .ref q0_), (0, 1, a0_, .ref q1_), (0, 2, a0_, .ref q2_), (5, 1, q1_, .ref q3_), (8, 8, q0_, .int y0_)]) rfl (fun r_45 fr_45 H locs hp hMr_45 g => ?_)
              obtain ⟨h_46, -⟩ := hp
              have hG_47 := eOK.frame hMr_45 go_.2.2.2.1 ma0_ ka0_ (by decide) (by decide) hG_42
              have go_ := g
              refine g_callv (va_runV (As := [.int 3, .int r_45]) (rest := []) ⟨hx, hb, hml, hown, hts⟩ (r_X7_emit l dC dI L kd tys fr_45 H.size g.2.2.2.1 q2_ mq2_ kq2_ 3 r_45) (cwV 2 hts (gV_ t_1203 t_1204 t_1205 t_191 t_1206) rfl rfl rfl (by decide +kernel) ⟨(Nat.le_of_ble_eq_true rfl), (Nat.le_of_ble_eq_true rfl)⟩) (pre3V g hK mq2_ kq2_ (by decide) (q := (RX7, TX7, 19)) rfl) rfl rfl hl.1 rfl (lv_room (Nat.le_of_ble_eq_true rfl)) dX0_readName_284 ⟨(Nat.le_of_ble_eq_true rfl), (Nat.le_of_ble_eq_true rfl)⟩) g hK (by decide) (by decide) (fx' := [(7, 18, q2_, .int y_21), (8, 6, q0_, .int x_6), (0, 0, a0_, .ref q0_), (0, 1, a0_, .ref q1_), (0, 2, a0_, .ref q2_), (5, 1, q1_, .ref q3_), (8, 8, q0_, .int y0_)]) rfl (fun fr_48 H locs hp hMr_48 g => ?_)
              obtain ⟨x_49, h_50, hF_51⟩ := hp
              have hG_52 := eOK.frame hMr_48 go_.2.2.2.1 ma0_ ka0_ (by decide) (by decide) hG_47
              have g := g.more hF_51
              refine lv_aload_n hx hb dX0_readName_287 rfl (lv_at hl 3 rfl) ?_
              refine lv_iconst (v := 1) hx hb dX0_readName_288 (by decide) ?_
              have go_ := g
              refine g_callv (va_runV (As := [.int 1]) (rest := []) ⟨hx, hb, hml, hown, hts⟩ (r_X0_addWhole l dC dI L kd tys fr_48 H.size g.2.2.2.1 a0_ ma0_ ka0_ 1) (cwV 1 hts (gV_ t_1211 t_1213 t_17 t_190 t_1214) rfl rfl rfl (by decide +kernel) ⟨(Nat.le_of_ble_eq_true rfl), (Nat.le_of_ble_eq_true rfl)⟩) (pre3V g hK ma0_ ka0_ (by decide) (q := (RX0, TX0, 14)) rfl) rfl rfl hl.1 rfl (lv_room (Nat.le_of_ble_eq_true rfl)) dX0_readName_289 ⟨(Nat.le_of_ble_eq_true rfl), (Nat.le_of_ble_eq_true rfl)⟩) g hK (by decide) (by decide) (fx' := [(7, 6, q2_, .int x_49), (7, 18, q2_, .int y_21), (8, 6, q0_, .int x_6), (0, 0, a0_, .ref q0_), (0, 1, a0_, .ref q1_), (0, 2, a0_, .ref q2_), (5, 1, q1_, .ref q3_), (8, 8, q0_, .int y0_)]) rfl (fun fr_53 H locs hp hMr_53 g => ?_)
              obtain ⟨x_54, h_55, hF_56⟩ := hp
              have hG_57 := eOK.frame hMr_53 go_.2.2.2.1 ma0_ ka0_ (by decide) (by decide) hG_52
              have g := g.more hF_56
              subst hQ
              exact W.vret hx hb hr (fun t ht hW => ⟨⟨_, rfl, Or.inl ⟨hG_57, x_6, h_7, (g.fcts [4, 9] rfl)⟩, q3_of g hK ht hW⟩, g.2.2.1.F ht⟩) g.2.2.1.2.2 dX0_readName_292
            · have fc_43 := nlt_f c_43
              have b_58 : bd 16 26 r_15 := leR fc_43 kb_16 b_19 (by decide)
              refine lv_aload_n hx hb dX0_readName_246 rfl (lv_at hl 3 rfl) ?_
              refine g_getk (C := RX0) (T := TX0) (N := 14) hx hb hts (mc_ inX0) hown hK g rfl 2 (by decide) rfl (hts _ (List.mem_cons_of_mem _ t_375)) (fun _ h9 => h9) 4 rfl dX0_readName_247 ?_
              refine lv_iconst (v := 2) hx hb dX0_readName_250 (by decide) ?_
              refine lv_iload hx hb dX0_readName_251 (lv_at hl 0 rfl) ?_
              refine lv_bipush (v := 16) hx hb dX0_readName_253 (by decide) ?_
              refine lv_isub hx hb dX0_readName_255 ?_
              refine lv_topi (fun y_59 ey_59 => ?_)
              have ty_59 := sub_bd ey_59 b_58 kb_16 (by decide)
              have b_60 : bd 0 10 y_59 := sub_rg ty_59 b_58 kb_16 (by decide)
              have go_ := g
              refine g_callv (va_runV (As := [.int 2, .int y_59]) (rest := []) ⟨hx, hb, hml, hown, hts⟩ (r_X7_emit l dC dI L kd tys fr_35 H.size g.2.2.2.1 q2_ mq2_ kq2_ 2 y_59) (cwV 2 hts (gV_ t_1203 t_1204 t_1205 t_191 t_1206) rfl rfl rfl (by decide +kernel) ⟨(Nat.le_of_ble_eq_true rfl), (Nat.le_of_ble_eq_true rfl)⟩) (pre3V g hK mq2_ kq2_ (by decide) (q := (RX7, TX7, 19)) rfl) rfl rfl hl.1 rfl (lv_room (Nat.le_of_ble_eq_true rfl)) dX0_readName_256 ⟨(Nat.le_of_ble_eq_true rfl), (Nat.le_of_ble_eq_true rfl)⟩) g hK (by decide) (by decide) (fx' := [(7, 18, q2_, .int y_21), (8, 6, q0_, .int x_6), (0, 0, a0_, .ref q0_), (0, 1, a0_, .ref q1_), (0, 2, a0_, .ref q2_), (5, 1, q1_, .ref q3_), (8, 8, q0_, .int y0_)]) rfl (fun fr_61 H locs hp hMr_61 g => ?_)
              obtain ⟨x_62, h_63, hF_64⟩ := hp
              have hG_65 := eOK.frame hMr_61 go_.2.2.2.1 ma0_ ka0_ (by decide) (by decide) hG_42
              have g := g.more hF_64
              refine lv_aload_n hx hb dX0_readName_259 rfl (lv_at hl 3 rfl) ?_
              refine lv_iconst (v := 1) hx hb dX0_readName_260 (by decide) ?_
              have go_ := g
              refine g_callv (va_runV (As := [.int 1]) (rest := []) ⟨hx, hb, hml, hown, hts⟩ (r_X0_addWhole l dC dI L kd tys fr_61 H.size g.2.2.2.1 a0_ ma0_ ka0_ 1) (cwV 1 hts (gV_ t_1211 t_1213 t_17 t_190 t_1214) rfl rfl rfl (by decide +kernel) ⟨(Nat.le_of_ble_eq_true rfl), (Nat.le_of_ble_eq_true rfl)⟩) (pre3V g hK ma0_ ka0_ (by decide) (q := (RX0, TX0, 14)) rfl) rfl rfl hl.1 rfl (lv_room (Nat.le_of_ble_eq_true rfl)) dX0_readName_261 ⟨(Nat.le_of_ble_eq_true rfl), (Nat.le_of_ble_eq_true rfl)⟩) g hK (by decide) (by decide) (fx' := [(7, 6, q2_, .int x_62), (7, 18, q2_, .int y_21), (8, 6, q0_, .int x_6), (0, 0, a0_, .ref q0_), (0, 1, a0_, .ref q1_), (0, 2, a0_, .ref q2_), (5, 1, q1_, .ref q3_), (8, 8, q0_, .int y0_)]) rfl (fun fr_66 H locs hp hMr_66 g => ?_)
              obtain ⟨x_67, h_68, hF_69⟩ := hp
              have hG_70 := eOK.frame hMr_66 go_.2.2.2.1 ma0_ ka0_ (by decide) (by decide) hG_65
              have g := g.more hF_69
              refine lv_goto (tgt := 292) hx hb dX0_readName_264 (by decide) ?_
              subst hQ
              exact W.vret hx hb hr (fun t ht hW => ⟨⟨_, rfl, Or.inl ⟨hG_70, x_6, h_7, (g.fcts [4, 9] rfl)⟩, q3_of g hK ht hW⟩, g.2.2.1.F ht⟩) g.2.2.1.2.2 dX0_readName_292
          · have hG_71 := eOK.frame hMr_35 go_.2.2.2.1 ma0_ ka0_ (by decide) (by decide) hG_33
            obtain rfl : r_35 = 1 := h_37
            have b_72 : bd 0 9 r_15 := eqX rfl b_19 h_38 (by decide)
            have g := g.more hF_41
            refine lv_if_eq (tgt := 239) hx hb dX0_readName_225 (by decide) (fun c_ => absurd c_ (by decide)) (fun c_ => ?_)
            refine lv_aload_n hx hb dX0_readName_228 rfl (lv_at hl 3 rfl) ?_
            refine lv_iconst (v := 4) hx hb dX0_readName_229 (by decide) ?_
            refine lv_iload_n hx hb dX0_readName_230 rfl (lv_at hl 1 rfl) ?_
            refine lv_iload hx hb dX0_readName_231 (lv_at hl 0 rfl) ?_
            have kb_4 : bd 4 4 (4 : Int32) := ⟨by decide, by decide⟩
            have go_ := g
            refine g_callv (va_runV (As := [.int 4, .int r_3, .int r_15]) (rest := []) ⟨hx, hb, hml, hown, hts⟩ (r_X0_openIndex_3 l dC dI L kd tys fr_35 H.size g.2.2.2.1 a0_ ma0_ ka0_ 4 kb_4 r_3 r_15 b_72 q0_ mq0_ kq0_ q1_ mq1_ kq1_ q3_ mq3_ kq3_ x_39 h_40 y0_ by0_ hG_71 (g.fcts [3, 4, 6, 0, 7] rfl)) (cwV 3 hts (gV_ t_1260 t_1262 t_24 t_190 t_1263) rfl rfl rfl (by decide +kernel) ⟨(Nat.le_of_ble_eq_true rfl), (Nat.le_of_ble_eq_true rfl)⟩) (pre3V g hK ma0_ ka0_ (by decide) (q := (RX0, TX0, 14)) rfl) rfl rfl hl.1 rfl (lv_room (Nat.le_of_ble_eq_true rfl)) dX0_readName_233 ⟨(Nat.le_of_ble_eq_true rfl), (Nat.le_of_ble_eq_true rfl)⟩) g hK (by decide) (by decide) (fx' := [(9, 2, q3_, .int x_39), (7, 18, q2_, .int y_21), (0, 0, a0_, .ref q0_), (0, 1, a0_, .ref q1_), (0, 2, a0_, .ref q2_), (5, 1, q1_, .ref q3_)]) rfl (fun fr_73 H locs hp hMr_73 g => ?_)
            rcases hp with ⟨hG_74, x_75, h_76, x_77, h_78, x_79, h_80, hF_81⟩ | ⟨hG_82, x_83, h_84, x_85, h_86, hF_87⟩
            · have g := g.more hF_81
              refine lv_goto (tgt := 292) hx hb dX0_readName_236 (by decide) ?_
              subst hQ
              exact W.vret hx hb hr (fun t ht hW => ⟨⟨_, rfl, Or.inl ⟨hG_74, x_75, h_76, (g.fcts [0, 3] rfl)⟩, q3_of g hK ht hW⟩, g.2.2.1.F ht⟩) g.2.2.1.2.2 dX0_readName_292
            · have g := g.more hF_87
              refine lv_goto (tgt := 292) hx hb dX0_readName_236 (by decide) ?_
              have kb_1201 : bd 1201 1201 (1201 : Int32) := ⟨by decide, by decide⟩
              subst hQ
              exact W.vret hx hb hr (fun t ht hW => ⟨⟨_, rfl, Or.inr (⟨hG_82, 1201, kb_1201, x_85, h_86, (g.fcts [1, 2] rfl)⟩), q3_of g hK ht hW⟩, g.2.2.1.F ht⟩) g.2.2.1.2.2 dX0_readName_292
        · have fc_34 := eq_f c_34
          have b_88 : bd 91 91 r_32 := eqX fc_34 (bdT r_32) kb_91 (by decide)
          refine lv_iconst (v := 1) hx hb dX0_readName_193 (by decide) ?_
          refine lv_goto (tgt := 198) hx hb dX0_readName_194 (by decide) ?_
          refine lv_icmp_eq (tgt := 213) hx hb dX0_readName_198 (by decide) (fun c_ => absurd c_ (by decide)) (fun c_ => ?_)
          refine lv_aload_n hx hb dX0_readName_201 rfl (lv_at hl 3 rfl) ?_
          refine g_getk (C := RX0) (T := TX0) (N := 14) hx hb hts (mc_ inX0) hown hK g rfl 0 (by decide) rfl (hts _ (List.mem_cons_of_mem _ t_373)) (fun _ h9 => h9) 2 rfl dX0_readName_202 ?_
          refine lv_iconst (v := 5) hx hb dX0_readName_205 (by decide) ?_
          refine lv_iload_n hx hb dX0_readName_206 rfl (lv_at hl 1 rfl) ?_
          have kb_5 : bd 5 5 (5 : Int32) := ⟨by decide, by decide⟩
          have go_ := g
          refine g_callv (va_runV (As := [.int 5, .int r_3]) (rest := []) ⟨hx, hb, hml, hown, hts⟩ (r_X8_fail l dC dI L kd tys fr_32 H.size g.2.2.2.1 q0_ mq0_ kq0_ 5 (bd_sub kb_5 (by decide)) r_3 y0_ by0_ (g.fcts [6] rfl)) (cwV 2 hts (gV_ t_1215 t_1107 t_1108 t_184 t_1109) rfl rfl rfl (by decide +kernel) ⟨(Nat.le_of_ble_eq_true rfl), (Nat.le_of_ble_eq_true rfl)⟩) (pre3V g hK mq0_ kq0_ (by decide) (q := (RX8, TX8, 10)) rfl) rfl rfl hl.1 rfl (lv_room (Nat.le_of_ble_eq_true rfl)) dX0_readName_207 ⟨(Nat.le_of_ble_eq_true rfl), (Nat.le_of_ble_eq_true rfl)⟩) g hK (by decide) (by decide) (fx' := [(7, 18, q2_, .int y_21), (0, 0, a0_, .ref q0_), (0, 1, a0_, .ref q1_), (0, 2, a0_, .ref q2_), (5, 1, q1_, .ref q3_)]) rfl (fun fr_89 H locs hp hMr_89 g => ?_)
          obtain ⟨x_90, h_91, hF_92⟩ := hp
          have hG_93 := eOK.frame hMr_89 go_.2.2.2.1 ma0_ ka0_ (by decide) (by decide) hG_33
          have g := g.more hF_92
          refine lv_goto (tgt := 292) hx hb dX0_readName_210 (by decide) ?_
          have kb_1201 : bd 1201 1201 (1201 : Int32) := ⟨by decide, by decide⟩
          subst hQ
          exact W.vret hx hb hr (fun t ht hW => ⟨⟨_, rfl, Or.inr (⟨hG_93, 1201, kb_1201, x_90, h_91, (g.fcts [0, 1] rfl)⟩), q3_of g hK ht hW⟩, g.2.2.1.F ht⟩) g.2.2.1.2.2 dX0_readName_292
      · have hG_94 := eOK.frame hMr_24 go_.2.2.2.1 ma0_ ka0_ (by decide) (by decide) hG_23
        obtain rfl : r_24 = 1 := h_26
        have b_95 : bd 0 9 r_15 := eqX rfl b_19 h_27 (by decide)
        have g := g.more hF_30
        refine lv_aload_n hx hb dX0_readName_181 rfl (lv_at hl 3 rfl) ?_
        refine g_getk (C := RX0) (T := TX0) (N := 14) hx hb hts (mc_ inX0) hown hK g rfl 0 (by decide) rfl (hts _ (List.mem_cons_of_mem _ t_373)) (fun _ h9 => h9) 3 rfl dX0_readName_182 ?_
        have go_ := g
        refine g_calli (va_runV (As := []) (rest := [.int 1]) ⟨hx, hb, hml, hown, hts⟩ (r_X8_kind l dC dI L kd tys fr_24 H.size g.2.2.2.1 q0_ mq0_ kq0_) (cwV 0 hts (gV_ t_1186 t_1119 t_1120 t_184 t_1121) rfl rfl rfl (by decide +kernel) ⟨(Nat.le_of_ble_eq_true rfl), (Nat.le_of_ble_eq_true rfl)⟩) (pre3V g hK mq0_ kq0_ (by decide) (q := (RX8, TX8, 10)) rfl) rfl rfl hl.1 rfl (lv_room (Nat.le_of_ble_eq_true rfl)) dX0_readName_185 ⟨(Nat.le_of_ble_eq_true rfl), (Nat.le_of_ble_eq_true rfl)⟩) g hK (by decide) (by decide) (fx' := [(9, 2, q3_, .int x_28), (7, 18, q2_, .int y_21), (8, 6, q0_, .int x_6), (0, 0, a0_, .ref q0_), (0, 1, a0_, .ref q1_), (0, 2, a0_, .ref q2_), (5, 1, q1_, .ref q3_), (8, 8, q0_, .int y0_)]) rfl (fun r_96 fr_96 H locs hp hMr_96 g => ?_)
        have hG_97 := eOK.frame hMr_96 go_.2.2.2.1 ma0_ ka0_ (by decide) (by decide) hG_94
        refine lv_bipush (v := 91) hx hb dX0_readName_188 (by decide) ?_
        have kb_91 : bd 91 91 (91 : Int32) := ⟨by decide, by decide⟩
        refine lv_icmp_ne (tgt := 197) hx hb dX0_readName_190 (by decide) (fun c_98 => ?_) (fun c_98 => ?_)
        · have fc_98 := neq_f c_98
          refine lv_iconst (v := 0) hx hb dX0_readName_197 (by decide) ?_
          refine lv_icmp_eq (tgt := 213) hx hb dX0_readName_198 (by decide) (fun c_ => absurd c_ (by decide)) (fun c_ => ?_)
          refine lv_aload_n hx hb dX0_readName_201 rfl (lv_at hl 3 rfl) ?_
          refine g_getk (C := RX0) (T := TX0) (N := 14) hx hb hts (mc_ inX0) hown hK g rfl 0 (by decide) rfl (hts _ (List.mem_cons_of_mem _ t_373)) (fun _ h9 => h9) 3 rfl dX0_readName_202 ?_
          refine lv_iconst (v := 5) hx hb dX0_readName_205 (by decide) ?_
          refine lv_iload_n hx hb dX0_readName_206 rfl (lv_at hl 1 rfl) ?_
          have kb_5 : bd 5 5 (5 : Int32) := ⟨by decide, by decide⟩
          have go_ := g
          refine g_callv (va_runV (As := [.int 5, .int r_3]) (rest := []) ⟨hx, hb, hml, hown, hts⟩ (r_X8_fail l dC dI L kd tys fr_96 H.size g.2.2.2.1 q0_ mq0_ kq0_ 5 (bd_sub kb_5 (by decide)) r_3 y0_ by0_ (g.fcts [7] rfl)) (cwV 2 hts (gV_ t_1215 t_1107 t_1108 t_184 t_1109) rfl rfl rfl (by decide +kernel) ⟨(Nat.le_of_ble_eq_true rfl), (Nat.le_of_ble_eq_true rfl)⟩) (pre3V g hK mq0_ kq0_ (by decide) (q := (RX8, TX8, 10)) rfl) rfl rfl hl.1 rfl (lv_room (Nat.le_of_ble_eq_true rfl)) dX0_readName_207 ⟨(Nat.le_of_ble_eq_true rfl), (Nat.le_of_ble_eq_true rfl)⟩) g hK (by decide) (by decide) (fx' := [(9, 2, q3_, .int x_28), (7, 18, q2_, .int y_21), (0, 0, a0_, .ref q0_), (0, 1, a0_, .ref q1_), (0, 2, a0_, .ref q2_), (5, 1, q1_, .ref q3_)]) rfl (fun fr_99 H locs hp hMr_99 g => ?_)
          obtain ⟨x_100, h_101, hF_102⟩ := hp
          have hG_103 := eOK.frame hMr_99 go_.2.2.2.1 ma0_ ka0_ (by decide) (by decide) hG_97
          have g := g.more hF_102
          refine lv_goto (tgt := 292) hx hb dX0_readName_210 (by decide) ?_
          have kb_1201 : bd 1201 1201 (1201 : Int32) := ⟨by decide, by decide⟩
          subst hQ
          exact W.vret hx hb hr (fun t ht hW => ⟨⟨_, rfl, Or.inr (⟨hG_103, 1201, kb_1201, x_100, h_101, (g.fcts [0, 1] rfl)⟩), q3_of g hK ht hW⟩, g.2.2.1.F ht⟩) g.2.2.1.2.2 dX0_readName_292
        · have fc_98 := eq_f c_98
          have b_104 : bd 91 91 r_96 := eqX fc_98 (bdT r_96) kb_91 (by decide)
          refine lv_iconst (v := 1) hx hb dX0_readName_193 (by decide) ?_
          refine lv_goto (tgt := 198) hx hb dX0_readName_194 (by decide) ?_
          refine lv_icmp_eq (tgt := 213) hx hb dX0_readName_198 (by decide) (fun c_ => ?_) (fun c_ => absurd (by decide) c_)
          refine lv_aload_n hx hb dX0_readName_213 rfl (lv_at hl 3 rfl) ?_
          refine g_getk (C := RX0) (T := TX0) (N := 14) hx hb hts (mc_ inX0) hown hK g rfl 1 (by decide) rfl (hts _ (List.mem_cons_of_mem _ t_374)) (fun _ h9 => h9) 4 rfl dX0_readName_214 ?_
          refine g_getk (C := RX5) (T := TX5) (N := 9) hx hb hts (mc_ inX5) hown hK g rfl 1 (by decide) rfl (hts _ (List.mem_cons_of_mem _ t_332)) (fun _ h9 => h9) 6 rfl dX0_readName_217 ?_
          refine lv_iload hx hb dX0_readName_220 (lv_at hl 0 rfl) ?_
          have go_ := g
          refine g_calli (va_runV (As := [.int r_15]) (rest := []) ⟨hx, hb, hml, hown, hts⟩ (r_X9_isRow l dC dI L kd tys fr_96 H.size g.2.2.2.1 q3_ mq3_ kq3_ r_15) (cwV 1 hts (gV_ t_1256 t_1257 t_1258 t_192 t_1259) rfl rfl rfl (by decide +kernel) ⟨(Nat.le_of_ble_eq_true rfl), (Nat.le_of_ble_eq_true rfl)⟩) (pre3V g hK mq3_ kq3_ (by decide) (q := (RX9, TX9, 13)) rfl) rfl rfl hl.1 rfl (lv_room (Nat.le_of_ble_eq_true rfl)) dX0_readName_222 ⟨(Nat.le_of_ble_eq_true rfl), (Nat.le_of_ble_eq_true rfl)⟩) g hK (by decide) (by decide) (fx' := [(9, 2, q3_, .int x_28), (7, 18, q2_, .int y_21), (8, 6, q0_, .int x_6), (0, 0, a0_, .ref q0_), (0, 1, a0_, .ref q1_), (0, 2, a0_, .ref q2_), (5, 1, q1_, .ref q3_), (8, 8, q0_, .int y0_)]) rfl (fun r_105 fr_105 H locs hp hMr_105 g => ?_)
          rcases hp with ⟨h_106, -⟩ | ⟨h_107, h_108, x_109, h_110, hF_111⟩
          · have hG_112 := eOK.frame hMr_105 go_.2.2.2.1 ma0_ ka0_ (by decide) (by decide) hG_97
            obtain rfl : r_105 = 0 := h_106
            refine lv_if_eq (tgt := 239) hx hb dX0_readName_225 (by decide) (fun c_ => ?_) (fun c_ => absurd (by decide) c_)
            refine lv_iload hx hb dX0_readName_239 (lv_at hl 0 rfl) ?_
            refine lv_bipush (v := 16) hx hb dX0_readName_241 (by decide) ?_
            have kb_16 : bd 16 16 (16 : Int32) := ⟨by decide, by decide⟩
            refine lv_icmp_lt (tgt := 267) hx hb dX0_readName_243 (by decide) (fun c_113 => ?_) (fun c_113 => ?_)
            · have fc_113 := lt_f c_113
              refine lv_aload_n hx hb dX0_readName_267 rfl (lv_at hl 3 rfl) ?_
              refine g_getk (C := RX0) (T := TX0) (N := 14) hx hb hts (mc_ inX0) hown hK g rfl 2 (by decide) rfl (hts _ (List.mem_cons_of_mem _ t_375)) (fun _ h9 => h9) 5 rfl dX0_readName_268 ?_
              refine lv_iconst (v := 3) hx hb dX0_readName_271 (by decide) ?_
              refine lv_aload_n hx hb dX0_readName_272 rfl (lv_at hl 3 rfl) ?_
              refine g_getk (C := RX0) (T := TX0) (N := 14) hx hb hts (mc_ inX0) hown hK g rfl 1 (by decide) rfl (hts _ (List.mem_cons_of_mem _ t_374)) (fun _ h9 => h9) 4 rfl dX0_readName_273 ?_
              refine g_getk (C := RX5) (T := TX5) (N := 9) hx hb hts (mc_ inX5) hown hK g rfl 1 (by decide) rfl (hts _ (List.mem_cons_of_mem _ t_332)) (fun _ h9 => h9) 6 rfl dX0_readName_276 ?_
              refine lv_iload hx hb dX0_readName_279 (lv_at hl 0 rfl) ?_
              have go_ := g
              refine g_calli (va_runV (As := [.int r_15]) (rest := [.int 3, .ref q2_]) ⟨hx, hb, hml, hown, hts⟩ (r_X9_spanOf l dC dI L kd tys fr_105 H.size g.2.2.2.1 q3_ mq3_ kq3_ r_15) (cwV 1 hts (gV_ t_1264 t_1265 t_1266 t_192 t_1267) rfl rfl rfl (by decide +kernel) ⟨(Nat.le_of_ble_eq_true rfl), (Nat.le_of_ble_eq_true rfl)⟩) (pre3V g hK mq3_ kq3_ (by decide) (q := (RX9, TX9, 13)) rfl) rfl rfl hl.1 rfl (lv_room (Nat.le_of_ble_eq_true rfl)) dX0_readName_281 ⟨(Nat.le_of_ble_eq_true rfl), (Nat.le_of_ble_eq_true rfl)⟩) g hK (by decide) (by decide) (fx' := [(9, 2, q3_, .int x_28), (7, 18, q2_, .int y_21), (8, 6, q0_, .int x_6), (0, 0, a0_, .ref q0_), (0, 1, a0_, .ref q1_), (0, 2, a0_, .ref q2_), (5, 1, q1_, .ref q3_), (8, 8, q0_, .int y0_)]) rfl (fun r_114 fr_114 H locs hp hMr_114 g => ?_)
              obtain ⟨h_115, -⟩ := hp
              have hG_116 := eOK.frame hMr_114 go_.2.2.2.1 ma0_ ka0_ (by decide) (by decide) hG_112
              have go_ := g
              refine g_callv (va_runV (As := [.int 3, .int r_114]) (rest := []) ⟨hx, hb, hml, hown, hts⟩ (r_X7_emit l dC dI L kd tys fr_114 H.size g.2.2.2.1 q2_ mq2_ kq2_ 3 r_114) (cwV 2 hts (gV_ t_1203 t_1204 t_1205 t_191 t_1206) rfl rfl rfl (by decide +kernel) ⟨(Nat.le_of_ble_eq_true rfl), (Nat.le_of_ble_eq_true rfl)⟩) (pre3V g hK mq2_ kq2_ (by decide) (q := (RX7, TX7, 19)) rfl) rfl rfl hl.1 rfl (lv_room (Nat.le_of_ble_eq_true rfl)) dX0_readName_284 ⟨(Nat.le_of_ble_eq_true rfl), (Nat.le_of_ble_eq_true rfl)⟩) g hK (by decide) (by decide) (fx' := [(9, 2, q3_, .int x_28), (7, 18, q2_, .int y_21), (8, 6, q0_, .int x_6), (0, 0, a0_, .ref q0_), (0, 1, a0_, .ref q1_), (0, 2, a0_, .ref q2_), (5, 1, q1_, .ref q3_), (8, 8, q0_, .int y0_)]) rfl (fun fr_117 H locs hp hMr_117 g => ?_)
              obtain ⟨x_118, h_119, hF_120⟩ := hp
              have hG_121 := eOK.frame hMr_117 go_.2.2.2.1 ma0_ ka0_ (by decide) (by decide) hG_116
              have g := g.more hF_120
              refine lv_aload_n hx hb dX0_readName_287 rfl (lv_at hl 3 rfl) ?_
              refine lv_iconst (v := 1) hx hb dX0_readName_288 (by decide) ?_
              have go_ := g
              refine g_callv (va_runV (As := [.int 1]) (rest := []) ⟨hx, hb, hml, hown, hts⟩ (r_X0_addWhole l dC dI L kd tys fr_117 H.size g.2.2.2.1 a0_ ma0_ ka0_ 1) (cwV 1 hts (gV_ t_1211 t_1213 t_17 t_190 t_1214) rfl rfl rfl (by decide +kernel) ⟨(Nat.le_of_ble_eq_true rfl), (Nat.le_of_ble_eq_true rfl)⟩) (pre3V g hK ma0_ ka0_ (by decide) (q := (RX0, TX0, 14)) rfl) rfl rfl hl.1 rfl (lv_room (Nat.le_of_ble_eq_true rfl)) dX0_readName_289 ⟨(Nat.le_of_ble_eq_true rfl), (Nat.le_of_ble_eq_true rfl)⟩) g hK (by decide) (by decide) (fx' := [(7, 6, q2_, .int x_118), (9, 2, q3_, .int x_28), (7, 18, q2_, .int y_21), (8, 6, q0_, .int x_6), (0, 0, a0_, .ref q0_), (0, 1, a0_, .ref q1_), (0, 2, a0_, .ref q2_), (5, 1, q1_, .ref q3_), (8, 8, q0_, .int y0_)]) rfl (fun fr_122 H locs hp hMr_122 g => ?_)
              obtain ⟨x_123, h_124, hF_125⟩ := hp
              have hG_126 := eOK.frame hMr_122 go_.2.2.2.1 ma0_ ka0_ (by decide) (by decide) hG_121
              have g := g.more hF_125
              subst hQ
              exact W.vret hx hb hr (fun t ht hW => ⟨⟨_, rfl, Or.inl ⟨hG_126, x_6, h_7, (g.fcts [5, 10] rfl)⟩, q3_of g hK ht hW⟩, g.2.2.1.F ht⟩) g.2.2.1.2.2 dX0_readName_292
            · have fc_113 := nlt_f c_113
              have b_127 : bd 16 9 (16 : Int32) := leL fc_113 kb_16 b_95 (by decide)
              exact bd_no (eqX rfl b_127 kb_16 (lo := 16) (hi := 9) (by decide)) (by decide)
          · have hG_128 := eOK.frame hMr_105 go_.2.2.2.1 ma0_ ka0_ (by decide) (by decide) hG_97
            obtain rfl : r_105 = 1 := h_107
            have g := g.more hF_111
            have e_129 := fx_same g 1 0 rfl rfl
            have g := g.sub (fx' := [(9, 2, q3_, .int x_28), (7, 18, q2_, .int y_21), (8, 6, q0_, .int x_6), (0, 0, a0_, .ref q0_), (0, 1, a0_, .ref q1_), (0, 2, a0_, .ref q2_), (5, 1, q1_, .ref q3_), (8, 8, q0_, .int y0_)]) [1, 2, 3, 4, 5, 6, 7, 8] rfl
            refine lv_if_eq (tgt := 239) hx hb dX0_readName_225 (by decide) (fun c_ => absurd c_ (by decide)) (fun c_ => ?_)
            refine lv_aload_n hx hb dX0_readName_228 rfl (lv_at hl 3 rfl) ?_
            refine lv_iconst (v := 4) hx hb dX0_readName_229 (by decide) ?_
            refine lv_iload_n hx hb dX0_readName_230 rfl (lv_at hl 1 rfl) ?_
            refine lv_iload hx hb dX0_readName_231 (lv_at hl 0 rfl) ?_
            have kb_4 : bd 4 4 (4 : Int32) := ⟨by decide, by decide⟩
            have go_ := g
            refine g_callv (va_runV (As := [.int 4, .int r_3, .int r_15]) (rest := []) ⟨hx, hb, hml, hown, hts⟩ (r_X0_openIndex_3 l dC dI L kd tys fr_105 H.size g.2.2.2.1 a0_ ma0_ ka0_ 4 kb_4 r_3 r_15 b_95 q0_ mq0_ kq0_ q1_ mq1_ kq1_ q3_ mq3_ kq3_ x_28 h_29 y0_ by0_ hG_128 (g.fcts [3, 4, 6, 0, 7] rfl)) (cwV 3 hts (gV_ t_1260 t_1262 t_24 t_190 t_1263) rfl rfl rfl (by decide +kernel) ⟨(Nat.le_of_ble_eq_true rfl), (Nat.le_of_ble_eq_true rfl)⟩) (pre3V g hK ma0_ ka0_ (by decide) (q := (RX0, TX0, 14)) rfl) rfl rfl hl.1 rfl (lv_room (Nat.le_of_ble_eq_true rfl)) dX0_readName_233 ⟨(Nat.le_of_ble_eq_true rfl), (Nat.le_of_ble_eq_true rfl)⟩) g hK (by decide) (by decide) (fx' := [(9, 2, q3_, .int x_28), (7, 18, q2_, .int y_21), (0, 0, a0_, .ref q0_), (0, 1, a0_, .ref q1_), (0, 2, a0_, .ref q2_), (5, 1, q1_, .ref q3_)]) rfl (fun fr_130 H locs hp hMr_130 g => ?_)
            rcases hp with ⟨hG_131, x_132, h_133, x_134, h_135, x_136, h_137, hF_138⟩ | ⟨hG_139, x_140, h_141, x_142, h_143, hF_144⟩
            · have g := g.more hF_138
              refine lv_goto (tgt := 292) hx hb dX0_readName_236 (by decide) ?_
              subst hQ
              exact W.vret hx hb hr (fun t ht hW => ⟨⟨_, rfl, Or.inl ⟨hG_131, x_132, h_133, (g.fcts [0, 3] rfl)⟩, q3_of g hK ht hW⟩, g.2.2.1.F ht⟩) g.2.2.1.2.2 dX0_readName_292
            · have g := g.more hF_144
              refine lv_goto (tgt := 292) hx hb dX0_readName_236 (by decide) ?_
              have kb_1201 : bd 1201 1201 (1201 : Int32) := ⟨by decide, by decide⟩
              subst hQ
              exact W.vret hx hb hr (fun t ht hW => ⟨⟨_, rfl, Or.inr (⟨hG_139, 1201, kb_1201, x_142, h_143, (g.fcts [1, 2] rfl)⟩), q3_of g hK ht hW⟩, g.2.2.1.F ht⟩) g.2.2.1.2.2 dX0_readName_292
    · have fc_18 := eq_f c_18
      have b_145 : bd (-1) (-1) r_15 := eqX fc_18 h_16 kb_m1 (by decide)
      refine lv_aload_n hx hb dX0_readName_146 rfl (lv_at hl 3 rfl) ?_
      refine g_getk (C := RX0) (T := TX0) (N := 14) hx hb hts (mc_ inX0) hown hK g rfl 0 (by decide) rfl (hts _ (List.mem_cons_of_mem _ t_373)) (fun _ h9 => h9) 1 rfl dX0_readName_147 ?_
      refine lv_iconst (v := 2) hx hb dX0_readName_150 (by decide) ?_
      refine lv_iload_n hx hb dX0_readName_151 rfl (lv_at hl 1 rfl) ?_
      have kb_2 : bd 2 2 (2 : Int32) := ⟨by decide, by decide⟩
      have go_ := g
      refine g_callv (va_runV (As := [.int 2, .int r_3]) (rest := []) ⟨hx, hb, hml, hown, hts⟩ (r_X8_fail l dC dI L kd tys fr_15 H.size g.2.2.2.1 q0_ mq0_ kq0_ 2 (bd_sub kb_2 (by decide)) r_3 y0_ by0_ (g.fcts [5] rfl)) (cwV 2 hts (gV_ t_1215 t_1107 t_1108 t_184 t_1109) rfl rfl rfl (by decide +kernel) ⟨(Nat.le_of_ble_eq_true rfl), (Nat.le_of_ble_eq_true rfl)⟩) (pre3V g hK mq0_ kq0_ (by decide) (q := (RX8, TX8, 10)) rfl) rfl rfl hl.1 rfl (lv_room (Nat.le_of_ble_eq_true rfl)) dX0_readName_152 ⟨(Nat.le_of_ble_eq_true rfl), (Nat.le_of_ble_eq_true rfl)⟩) g hK (by decide) (by decide) (fx' := [(0, 0, a0_, .ref q0_), (0, 1, a0_, .ref q1_), (0, 2, a0_, .ref q2_), (5, 1, q1_, .ref q3_)]) rfl (fun fr_146 H locs hp hMr_146 g => ?_)
      obtain ⟨x_147, h_148, hF_149⟩ := hp
      have hG_150 := eOK.frame hMr_146 go_.2.2.2.1 ma0_ ka0_ (by decide) (by decide) hG_17
      have g := g.more hF_149
      have kb_1201 : bd 1201 1201 (1201 : Int32) := ⟨by decide, by decide⟩
      subst hQ
      exact W.vret hx hb hr (fun t ht hW => ⟨⟨_, rfl, Or.inr (⟨hG_150, 1201, kb_1201, x_147, h_148, (g.fcts [0, 1] rfl)⟩), q3_of g hK ht hW⟩, g.2.2.1.F ht⟩) g.2.2.1.2.2 dX0_readName_155
  · have fc_13 := neq_f c_13
    have b_151 : bd 1 1 r_10 := neX fc_13 h_11 kb_0 (by decide)
    refine lv_aload_n hx hb dX0_readName_33 rfl (lv_at hl 2 rfl) ?_
    refine g_getk (C := RX0) (T := TX0) (N := 14) hx hb hts (mc_ inX0) hown hK g rfl 2 (by decide) rfl (hts _ (List.mem_cons_of_mem _ t_375)) (fun _ h9 => h9) 3 rfl dX0_readName_34 ?_
    refine lv_aload_n hx hb dX0_readName_37 rfl (lv_at hl 2 rfl) ?_
    refine g_getk (C := RX0) (T := TX0) (N := 14) hx hb hts (mc_ inX0) hown hK g rfl 1 (by decide) rfl (hts _ (List.mem_cons_of_mem _ t_374)) (fun _ h9 => h9) 2 rfl dX0_readName_38 ?_
    refine g_getk (C := RX5) (T := TX5) (N := 9) hx hb hts (mc_ inX5) hown hK g rfl 1 (by decide) rfl (hts _ (List.mem_cons_of_mem _ t_332)) (fun _ h9 => h9) 4 rfl dX0_readName_41 ?_
    refine lv_lload_n hx hb dX0_readName_44 rfl (lv_at hl 1 rfl) ?_
    have go_ := g
    refine g_calli (va_runV (As := [.ref q3_, .long r_1]) (rest := []) ⟨hx, hb, hml, hown, hts⟩ (r_X7_memberNamed l dC dI L kd tys fr_10 H.size g.2.2.2.1 q2_ mq2_ kq2_ q3_ mq3_ kq3_ r_1) (cwV 2 hts (gV_ t_1243 t_1244 t_1245 t_191 t_1246) rfl rfl rfl (by decide +kernel) ⟨(Nat.le_of_ble_eq_true rfl), (Nat.le_of_ble_eq_true rfl)⟩) (pre3V g hK mq2_ kq2_ (by decide) (q := (RX7, TX7, 19)) rfl) rfl rfl hl.1 rfl (lv_room (Nat.le_of_ble_eq_true rfl)) dX0_readName_45 ⟨(Nat.le_of_ble_eq_true rfl), (Nat.le_of_ble_eq_true rfl)⟩) g hK (by decide) (by decide) (fx' := [(8, 6, q0_, .int x_6), (0, 0, a0_, .ref q0_), (0, 1, a0_, .ref q1_), (0, 2, a0_, .ref q2_), (5, 1, q1_, .ref q3_), (8, 8, q0_, .int y0_)]) rfl (fun r_152 fr_152 H locs hp hMr_152 g => ?_)
    obtain ⟨h_153, -⟩ := hp
    have hG_154 := eOK.frame hMr_152 go_.2.2.2.1 ma0_ ka0_ (by decide) (by decide) hG_12
    refine lv_istore (lv' := [(4, .int r_152), (3, .int r_3), (1, .long r_1), (0, .ref a0_)]) hx hb dX0_readName_48 hl (by decide) rfl (fun ls hl => ?_)
    refine lv_iload hx hb dX0_readName_50 (lv_at hl 0 rfl) ?_
    refine lv_iconst (v := (-1)) hx hb dX0_readName_52 (by decide) ?_
    have kb_m1 : bd (-1) (-1) ((-1) : Int32) := ⟨by decide, by decide⟩
    refine lv_icmp_ne (tgt := 66) hx hb dX0_readName_53 (by decide) (fun c_155 => ?_) (fun c_155 => ?_)
    · have fc_155 := neq_f c_155
      have b_156 : bd 0 11 r_152 := neX fc_155 h_153 kb_m1 (by decide)
      refine lv_aload_n hx hb dX0_readName_66 rfl (lv_at hl 3 rfl) ?_
      refine g_getk (C := RX0) (T := TX0) (N := 14) hx hb hts (mc_ inX0) hown hK g rfl 2 (by decide) rfl (hts _ (List.mem_cons_of_mem _ t_375)) (fun _ h9 => h9) 3 rfl dX0_readName_67 ?_
      refine g_getr (K := 137) (C := RX7) (T := TX7) (N := 19) hx hb hts (mc_ inX7) hown hK g mq2_ kq2_ (by decide) rfl 2 (by decide) rfl (hts _ (List.mem_cons_of_mem _ t_633)) (fun _ h9 => h9) rfl dX0_readName_70 (fun a_157 ma_157 ka_157 g => ?_)
      refine lv_aload_n hx hb dX0_readName_73 rfl (lv_at hl 3 rfl) ?_
      refine g_getk (C := RX0) (T := TX0) (N := 14) hx hb hts (mc_ inX0) hown hK g rfl 1 (by decide) rfl (hts _ (List.mem_cons_of_mem _ t_374)) (fun _ h9 => h9) 3 rfl dX0_readName_74 ?_
      refine g_getk (C := RX5) (T := TX5) (N := 9) hx hb hts (mc_ inX5) hown hK g rfl 1 (by decide) rfl (hts _ (List.mem_cons_of_mem _ t_332)) (fun _ h9 => h9) 5 rfl dX0_readName_77 ?_
      refine g_getr (K := 156) (C := RX9) (T := TX9) (N := 13) hx hb hts (mc_ inX9) hown hK g mq3_ kq3_ (by decide) rfl 9 (by decide) rfl (hts _ (List.mem_cons_of_mem _ t_508)) (fun _ h9 => h9) rfl dX0_readName_80 (fun a_158 ma_158 ka_158 g => ?_)
      refine lv_iload hx hb dX0_readName_83 (lv_at hl 0 rfl) ?_
      refine g_iald hx hb hK g ma_158 ka_158 (by decide) rfl (in_bd b_156 (by decide)) dX0_readName_85 (fun x_159 bx_159 cx_159 => ?_)
      refine g_aald hx hb hK g ma_157 ka_157 (by decide) rfl (by decide) (in_bd bx_159 (by decide)) dX0_readName_86 (fun a_160 ma_160 ua_160 wa_160 => ?_)
      have ka_160 : kd a_160 = 6 := by omega
      refine lv_astore (lv' := [(5, .ref a_160), (4, .int r_152), (3, .int r_3), (1, .long r_1), (0, .ref a0_)]) hx hb dX0_readName_87 hl (by decide) rfl (fun ls hl => ?_)
      refine lv_aload_n hx hb dX0_readName_89 rfl (lv_at hl 4 rfl) ?_
      refine g_getk (C := RX0) (T := TX0) (N := 14) hx hb hts (mc_ inX0) hown hK g rfl 1 (by decide) rfl (hts _ (List.mem_cons_of_mem _ t_374)) (fun _ h9 => h9) 4 rfl dX0_readName_90 ?_
      refine g_geti (C := RX5) (T := TX5) (N := 9) hx hb hts (mc_ inX5) hown hK g mq1_ kq1_ (by decide) rfl 7 (by decide) rfl (hts _ (List.mem_cons_of_mem _ t_343)) (fun _ h9 => h9) rfl dX0_readName_93 (fun x_161 bx_161 g => ?_)
      refine lv_if_eq (tgt := 116) hx hb dX0_readName_96 (by decide) (fun c_162 => ?_) (fun c_162 => ?_)
      · have fc_162 := eq_f c_162
        have b_163 : bd 0 0 x_161 := eqX fc_162 bx_161 kb_0 (by decide)
        refine lv_aload_n hx hb dX0_readName_116 rfl (lv_at hl 4 rfl) ?_
        refine lv_iconst (v := 2) hx hb dX0_readName_117 (by decide) ?_
        refine lv_iload_n hx hb dX0_readName_118 rfl (lv_at hl 2 rfl) ?_
        refine lv_iload hx hb dX0_readName_119 (lv_at hl 1 rfl) ?_
        refine lv_aload hx hb dX0_readName_121 (lv_at hl 0 rfl) ?_
        refine g_geti (C := RX6) (T := TX6) (N := 13) hx hb hts (mc_ inX6) hown hK g ma_160 ka_160 (by decide) rfl 3 (by decide) rfl (hts _ (List.mem_cons_of_mem _ t_564)) (fun _ h9 => h9) rfl dX0_readName_123 (fun x_164 bx_164 g => ?_)
        have kb_2 : bd 2 2 (2 : Int32) := ⟨by decide, by decide⟩
        have go_ := g
        refine g_callv (va_runV (As := [.int 2, .int r_3, .int r_152, .int x_164]) (rest := []) ⟨hx, hb, hml, hown, hts⟩ (r_X0_openCall_5 l dC dI L kd tys fr_152 H.size g.2.2.2.1 a0_ ma0_ ka0_ 2 kb_2 r_3 r_152 b_156 x_164 q0_ mq0_ kq0_ q2_ mq2_ kq2_ y0_ by0_ hG_154 (g.fcts [5, 7, 9] rfl)) (cwV 4 hts (gV_ t_1247 t_1249 t_23 t_190 t_1250) rfl rfl rfl (by decide +kernel) ⟨(Nat.le_of_ble_eq_true rfl), (Nat.le_of_ble_eq_true rfl)⟩) (pre3V g hK ma0_ ka0_ (by decide) (q := (RX0, TX0, 14)) rfl) rfl rfl hl.1 rfl (lv_room (Nat.le_of_ble_eq_true rfl)) dX0_readName_126 ⟨(Nat.le_of_ble_eq_true rfl), (Nat.le_of_ble_eq_true rfl)⟩) g hK (by decide) (by decide) (fx' := [(6, 3, a_160, .int x_164), (5, 7, q1_, .int x_161), (9, 9, q3_, .ref a_158), (7, 2, q2_, .ref a_157), (0, 0, a0_, .ref q0_), (0, 1, a0_, .ref q1_), (0, 2, a0_, .ref q2_), (5, 1, q1_, .ref q3_)]) rfl (fun fr_165 H locs hp hMr_165 g => ?_)
        rcases hp with ⟨hG_166, x_167, h_168, x_169, h_170, hF_171⟩ | ⟨hG_172, x_173, h_174, hF_175⟩
        · have g := g.more hF_171
          subst hQ
          exact W.vret hx hb hr (fun t ht hW => ⟨⟨_, rfl, Or.inl ⟨hG_166, x_169, h_170, (g.fcts [1, 2] rfl)⟩, q3_of g hK ht hW⟩, g.2.2.1.F ht⟩) g.2.2.1.2.2 dX0_readName_129
        · have g := g.more hF_175
          have kb_1201 : bd 1201 1201 (1201 : Int32) := ⟨by decide, by decide⟩
          subst hQ
          exact W.vret hx hb hr (fun t ht hW => ⟨⟨_, rfl, Or.inr (⟨hG_172, 1201, kb_1201, x_173, h_174, (g.fcts [0, 1] rfl)⟩), q3_of g hK ht hW⟩, g.2.2.1.F ht⟩) g.2.2.1.2.2 dX0_readName_129
      · have fc_162 := neq_f c_162
        have b_176 : bd 1 1 x_161 := neX fc_162 bx_161 kb_0 (by decide)
        refine lv_aload hx hb dX0_readName_99 (lv_at hl 0 rfl) ?_
        refine g_geti (C := RX6) (T := TX6) (N := 13) hx hb hts (mc_ inX6) hown hK g ma_160 ka_160 (by decide) rfl 6 (by decide) rfl (hts _ (List.mem_cons_of_mem _ t_577)) (fun _ h9 => h9) rfl dX0_readName_101 (fun x_177 bx_177 g => ?_)
        refine lv_if_ne (tgt := 116) hx hb dX0_readName_104 (by decide) (fun c_178 => ?_) (fun c_178 => ?_)
        · have fc_178 := neq_f c_178
          have b_179 : bd 1 1 x_177 := neX fc_178 bx_177 kb_0 (by decide)
          refine lv_aload_n hx hb dX0_readName_116 rfl (lv_at hl 4 rfl) ?_
          refine lv_iconst (v := 2) hx hb dX0_readName_117 (by decide) ?_
          refine lv_iload_n hx hb dX0_readName_118 rfl (lv_at hl 2 rfl) ?_
          refine lv_iload hx hb dX0_readName_119 (lv_at hl 1 rfl) ?_
          refine lv_aload hx hb dX0_readName_121 (lv_at hl 0 rfl) ?_
          refine g_geti (C := RX6) (T := TX6) (N := 13) hx hb hts (mc_ inX6) hown hK g ma_160 ka_160 (by decide) rfl 3 (by decide) rfl (hts _ (List.mem_cons_of_mem _ t_564)) (fun _ h9 => h9) rfl dX0_readName_123 (fun x_180 bx_180 g => ?_)
          have kb_2 : bd 2 2 (2 : Int32) := ⟨by decide, by decide⟩
          have go_ := g
          refine g_callv (va_runV (As := [.int 2, .int r_3, .int r_152, .int x_180]) (rest := []) ⟨hx, hb, hml, hown, hts⟩ (r_X0_openCall_5 l dC dI L kd tys fr_152 H.size g.2.2.2.1 a0_ ma0_ ka0_ 2 kb_2 r_3 r_152 b_156 x_180 q0_ mq0_ kq0_ q2_ mq2_ kq2_ y0_ by0_ hG_154 (g.fcts [6, 8, 10] rfl)) (cwV 4 hts (gV_ t_1247 t_1249 t_23 t_190 t_1250) rfl rfl rfl (by decide +kernel) ⟨(Nat.le_of_ble_eq_true rfl), (Nat.le_of_ble_eq_true rfl)⟩) (pre3V g hK ma0_ ka0_ (by decide) (q := (RX0, TX0, 14)) rfl) rfl rfl hl.1 rfl (lv_room (Nat.le_of_ble_eq_true rfl)) dX0_readName_126 ⟨(Nat.le_of_ble_eq_true rfl), (Nat.le_of_ble_eq_true rfl)⟩) g hK (by decide) (by decide) (fx' := [(6, 3, a_160, .int x_180), (6, 6, a_160, .int x_177), (5, 7, q1_, .int x_161), (9, 9, q3_, .ref a_158), (7, 2, q2_, .ref a_157), (0, 0, a0_, .ref q0_), (0, 1, a0_, .ref q1_), (0, 2, a0_, .ref q2_), (5, 1, q1_, .ref q3_)]) rfl (fun fr_181 H locs hp hMr_181 g => ?_)
          rcases hp with ⟨hG_182, x_183, h_184, x_185, h_186, hF_187⟩ | ⟨hG_188, x_189, h_190, hF_191⟩
          · have g := g.more hF_187
            subst hQ
            exact W.vret hx hb hr (fun t ht hW => ⟨⟨_, rfl, Or.inl ⟨hG_182, x_185, h_186, (g.fcts [1, 2] rfl)⟩, q3_of g hK ht hW⟩, g.2.2.1.F ht⟩) g.2.2.1.2.2 dX0_readName_129
          · have g := g.more hF_191
            have kb_1201 : bd 1201 1201 (1201 : Int32) := ⟨by decide, by decide⟩
            subst hQ
            exact W.vret hx hb hr (fun t ht hW => ⟨⟨_, rfl, Or.inr (⟨hG_188, 1201, kb_1201, x_189, h_190, (g.fcts [0, 1] rfl)⟩), q3_of g hK ht hW⟩, g.2.2.1.F ht⟩) g.2.2.1.2.2 dX0_readName_129
        · have fc_178 := eq_f c_178
          have b_192 : bd 0 0 x_177 := eqX fc_178 bx_177 kb_0 (by decide)
          refine lv_aload_n hx hb dX0_readName_107 rfl (lv_at hl 4 rfl) ?_
          refine g_getk (C := RX0) (T := TX0) (N := 14) hx hb hts (mc_ inX0) hown hK g rfl 0 (by decide) rfl (hts _ (List.mem_cons_of_mem _ t_373)) (fun _ h9 => h9) 5 rfl dX0_readName_108 ?_
          refine lv_iconst (v := 5) hx hb dX0_readName_111 (by decide) ?_
          refine lv_iload_n hx hb dX0_readName_112 rfl (lv_at hl 2 rfl) ?_
          have kb_5 : bd 5 5 (5 : Int32) := ⟨by decide, by decide⟩
          have go_ := g
          refine g_callv (va_runV (As := [.int 5, .int r_3]) (rest := []) ⟨hx, hb, hml, hown, hts⟩ (r_X8_fail l dC dI L kd tys fr_152 H.size g.2.2.2.1 q0_ mq0_ kq0_ 5 (bd_sub kb_5 (by decide)) r_3 y0_ by0_ (g.fcts [9] rfl)) (cwV 2 hts (gV_ t_1215 t_1107 t_1108 t_184 t_1109) rfl rfl rfl (by decide +kernel) ⟨(Nat.le_of_ble_eq_true rfl), (Nat.le_of_ble_eq_true rfl)⟩) (pre3V g hK mq0_ kq0_ (by decide) (q := (RX8, TX8, 10)) rfl) rfl rfl hl.1 rfl (lv_room (Nat.le_of_ble_eq_true rfl)) dX0_readName_113 ⟨(Nat.le_of_ble_eq_true rfl), (Nat.le_of_ble_eq_true rfl)⟩) g hK (by decide) (by decide) (fx' := [(6, 6, a_160, .int x_177), (5, 7, q1_, .int x_161), (9, 9, q3_, .ref a_158), (7, 2, q2_, .ref a_157), (0, 0, a0_, .ref q0_), (0, 1, a0_, .ref q1_), (0, 2, a0_, .ref q2_), (5, 1, q1_, .ref q3_)]) rfl (fun fr_193 H locs hp hMr_193 g => ?_)
          obtain ⟨x_194, h_195, hF_196⟩ := hp
          have hG_197 := eOK.frame hMr_193 go_.2.2.2.1 ma0_ ka0_ (by decide) (by decide) hG_154
          have g := g.more hF_196
          refine lv_aload_n hx hb dX0_readName_116 rfl (lv_at hl 4 rfl) ?_
          refine lv_iconst (v := 2) hx hb dX0_readName_117 (by decide) ?_
          refine lv_iload_n hx hb dX0_readName_118 rfl (lv_at hl 2 rfl) ?_
          refine lv_iload hx hb dX0_readName_119 (lv_at hl 1 rfl) ?_
          refine lv_aload hx hb dX0_readName_121 (lv_at hl 0 rfl) ?_
          refine g_geti (C := RX6) (T := TX6) (N := 13) hx hb hts (mc_ inX6) hown hK g ma_160 ka_160 (by decide) rfl 3 (by decide) rfl (hts _ (List.mem_cons_of_mem _ t_564)) (fun _ h9 => h9) rfl dX0_readName_123 (fun x_198 bx_198 g => ?_)
          have kb_2 : bd 2 2 (2 : Int32) := ⟨by decide, by decide⟩
          have kb_1201 : bd 1201 1201 (1201 : Int32) := ⟨by decide, by decide⟩
          have go_ := g
          refine g_callv (va_runV (As := [.int 2, .int r_3, .int r_152, .int x_198]) (rest := []) ⟨hx, hb, hml, hown, hts⟩ (r_X0_openCall_6 l dC dI L kd tys fr_193 H.size g.2.2.2.1 a0_ ma0_ ka0_ 2 kb_2 r_3 r_152 b_156 x_198 q0_ mq0_ kq0_ q2_ mq2_ kq2_ 1201 kb_1201 x_194 h_195 hG_197 (g.fcts [7, 9, 1, 2] rfl)) (cwV 4 hts (gV_ t_1247 t_1249 t_23 t_190 t_1250) rfl rfl rfl (by decide +kernel) ⟨(Nat.le_of_ble_eq_true rfl), (Nat.le_of_ble_eq_true rfl)⟩) (pre3V g hK ma0_ ka0_ (by decide) (q := (RX0, TX0, 14)) rfl) rfl rfl hl.1 rfl (lv_room (Nat.le_of_ble_eq_true rfl)) dX0_readName_126 ⟨(Nat.le_of_ble_eq_true rfl), (Nat.le_of_ble_eq_true rfl)⟩) g hK (by decide) (by decide) (fx' := [(6, 3, a_160, .int x_198), (8, 8, q0_, .int x_194), (6, 6, a_160, .int x_177), (5, 7, q1_, .int x_161), (9, 9, q3_, .ref a_158), (7, 2, q2_, .ref a_157), (0, 0, a0_, .ref q0_), (0, 1, a0_, .ref q1_), (0, 2, a0_, .ref q2_), (5, 1, q1_, .ref q3_)]) rfl (fun fr_199 H locs hp hMr_199 g => ?_)
          obtain ⟨hG_200, x_201, h_202, x_203, h_204, hF_205⟩ := hp
          have g := g.more hF_205
          subst hQ
          exact W.vret hx hb hr (fun t ht hW => ⟨⟨_, rfl, Or.inr (⟨hG_200, x_203, h_204, x_194, h_195, (g.fcts [1, 3] rfl)⟩), q3_of g hK ht hW⟩, g.2.2.1.F ht⟩) g.2.2.1.2.2 dX0_readName_129
    · have fc_155 := eq_f c_155
      have b_206 : bd (-1) (-1) r_152 := eqX fc_155 h_153 kb_m1 (by decide)
      refine lv_aload_n hx hb dX0_readName_56 rfl (lv_at hl 3 rfl) ?_
      refine g_getk (C := RX0) (T := TX0) (N := 14) hx hb hts (mc_ inX0) hown hK g rfl 0 (by decide) rfl (hts _ (List.mem_cons_of_mem _ t_373)) (fun _ h9 => h9) 1 rfl dX0_readName_57 ?_
      refine lv_iconst (v := 2) hx hb dX0_readName_60 (by decide) ?_
      refine lv_iload_n hx hb dX0_readName_61 rfl (lv_at hl 1 rfl) ?_
      have kb_2 : bd 2 2 (2 : Int32) := ⟨by decide, by decide⟩
      have go_ := g
      refine g_callv (va_runV (As := [.int 2, .int r_3]) (rest := []) ⟨hx, hb, hml, hown, hts⟩ (r_X8_fail l dC dI L kd tys fr_152 H.size g.2.2.2.1 q0_ mq0_ kq0_ 2 (bd_sub kb_2 (by decide)) r_3 y0_ by0_ (g.fcts [5] rfl)) (cwV 2 hts (gV_ t_1215 t_1107 t_1108 t_184 t_1109) rfl rfl rfl (by decide +kernel) ⟨(Nat.le_of_ble_eq_true rfl), (Nat.le_of_ble_eq_true rfl)⟩) (pre3V g hK mq0_ kq0_ (by decide) (q := (RX8, TX8, 10)) rfl) rfl rfl hl.1 rfl (lv_room (Nat.le_of_ble_eq_true rfl)) dX0_readName_62 ⟨(Nat.le_of_ble_eq_true rfl), (Nat.le_of_ble_eq_true rfl)⟩) g hK (by decide) (by decide) (fx' := [(0, 0, a0_, .ref q0_), (0, 1, a0_, .ref q1_), (0, 2, a0_, .ref q2_), (5, 1, q1_, .ref q3_)]) rfl (fun fr_207 H locs hp hMr_207 g => ?_)
      obtain ⟨x_208, h_209, hF_210⟩ := hp
      have hG_211 := eOK.frame hMr_207 go_.2.2.2.1 ma0_ ka0_ (by decide) (by decide) hG_154
      have g := g.more hF_210
      have kb_1201 : bd 1201 1201 (1201 : Int32) := ⟨by decide, by decide⟩
      subst hQ
      exact W.vret hx hb hr (fun t ht hW => ⟨⟨_, rfl, Or.inr (⟨hG_211, 1201, kb_1201, x_208, h_209, (g.fcts [0, 1] rfl)⟩), q3_of g hK ht hW⟩, g.2.2.1.F ht⟩) g.2.2.1.2.2 dX0_readName_65
