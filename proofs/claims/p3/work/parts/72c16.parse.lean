set_option maxHeartbeats 4000000 in
set_option maxRecDepth 100000 in
theorem r_X0_readName_2 (l : Launch) (dC : Nat → ClassId) (dI : Nat → Nat → Nat) (L : List Nat) (kd : Nat → Nat) (tys : List (ClassId × FieldType)) (f0 : Nat → va_E) (sz : Nat) (hWT : WT L kd tys f0) (a0_ : Nat) (ma0_ : a0_ ∈ L) (ka0_ : kd a0_ = 0) (q0_ : Nat) (mq0_ : q0_ ∈ L) (kq0_ : kd q0_ = 8) (q1_ : Nat) (mq1_ : q1_ ∈ L) (kq1_ : kd q1_ = 5) (q2_ : Nat) (mq2_ : q2_ ∈ L) (kq2_ : kd q2_ = 7) (q3_ : Nat) (mq3_ : q3_ ∈ L) (kq3_ : kd q3_ = 9) (y0_ : Int32) (by0_ : bd 0 0 y0_) (T_ : Nat) (J_ : Int32 → Prop) (hGia0_ : eJx f0 a0_) (hGcq2_ : cOK f0 q2_) (hGdq2_ : dOK L kd f0 q2_ T_) (hGsq2_ : jS f0 q2_ J_) (hGea0_ : eOK f0 a0_) (hfx : Fs L kd f0 [(0, 0, a0_, .ref q0_), (0, 1, a0_, .ref q1_), (0, 2, a0_, .ref q2_), (5, 1, q1_, .ref q3_), (8, 8, q0_, .int y0_)]) : Met l yX0_readName (.code yX0_readName cX0_readName 6 none :: lw_g) ({ frames := 2, cells := 0, slots := 0, locals := 50 }) (va_Pc [.ref a0_] (P3 (dC, dI) L tys f0 sz)) (va_Qv (fun (f : Nat → va_E) => (eJx f a0_ ∧ cOK f q2_ ∧ dOK L kd f q2_ T_ ∧ jS f q2_ J_ ∧ eOK f a0_ ∧ ∃ z0_ : Int32, bd 1 1201 z0_ ∧ Fs L kd f [(8, 6, q0_, .int z0_), (8, 8, q0_, .int y0_)]) ∨ (dOK L kd f q2_ T_ ∧ eOK f a0_ ∧ ∃ z0_ : Int32, bd 1201 1201 z0_ ∧ ∃ z1_ : Int32, bd 1 7 z1_ ∧ Fs L kd f [(8, 6, q0_, .int z0_), (8, 8, q0_, .int z1_)])) (Q3 (dC, dI) L kd tys [(0, 8), (0, 10), (0, 11), (0, 12), (7, 6), (7, 18), (8, 6), (8, 8), (8, 9)] [110, 111, 112, 113, 114, 115, 138, 139] f0 sz) (pA L sz)) 0 0 (pA L sz) := by
  refine Met.ofW (cc := cX0_readName) (maxL := 6) (ret := none) (by decide) rfl ?_
  intro p e s m args below meth c s₁ B hml hv
  obtain ⟨rfl, hsz, hP, hK, hD0⟩ := hv
  have hx := B.exec
  have hb := B.bytes
  have hr := B.returns
  have hts := atoms_spec (ws := (.code yX0_readName cX0_readName 6 none :: lw_g)) B.pre
  have hown : s.vm.findClass RX0 = some m.cls := findClass_of_methodNamed B.named
  have hlocks := B.notSynchronized
  subst hsz
  have g : G3 (dC, dI) L kd tys s f0 [(0, 8), (0, 10), (0, 11), (0, 12), (7, 6), (7, 18), (8, 6), (8, 8), (8, 9)] [110, 111, 112, 113, 114, 115, 138, 139] f0 s.heap [] [(0, 0, a0_, .ref q0_), (0, 1, a0_, .ref q1_), (0, 2, a0_, .ref q2_), (5, 1, q1_, .ref q3_), (8, 8, q0_, .int y0_)] := G3.start hP hD0 hWT hfx
  have hl := lv_entry ([.ref a0_]) (n := 6) (Nat.le_of_ble_eq_true rfl)
  rw [lg_entry_eq]
  generalize (lg_sl ([.ref a0_]) ++ List.replicate (6 - (lg_sl ([.ref a0_])).length) Slot.unset).toArray = ls at hl ⊢
  have hl : lv_has ls 6 [(0, .ref a0_)] := hl
  refine W_q (fun Q hQ => ?_)
  refine lv_aload_n hx hb dX0_readName_0 rfl (lv_at hl 0 rfl) ?_
  refine g_getk (C := RX0) (T := TX0) (N := 14) hx hb hts (mc_ inX0) hown hK g rfl 0 (by decide) rfl (hts _ (List.mem_cons_of_mem _ t_373)) (fun _ h9 => h9) 0 rfl dX0_readName_1 ?_
  have go_ := g
  refine g_calll (va_runV (As := []) (rest := []) ⟨hx, hb, hml, hown, hts⟩ (r_X8_value l dC dI L kd tys f0 s.heap.size g.2.2.2.1 q0_ mq0_ kq0_) (cwV 0 hts (gV_ t_1238 t_1115 t_1116 t_184 t_1117) rfl rfl rfl (by decide +kernel) ⟨(Nat.le_of_ble_eq_true rfl), (Nat.le_of_ble_eq_true rfl)⟩) (pre3V g hK mq0_ kq0_ (by decide) (q := (RX8, TX8, 10)) rfl) rfl rfl hl.1 rfl (lv_room (Nat.le_of_ble_eq_true rfl)) dX0_readName_4 ⟨(Nat.le_of_ble_eq_true rfl), (Nat.le_of_ble_eq_true rfl)⟩) g hK (by decide) (by decide) (fx' := [(0, 0, a0_, .ref q0_), (0, 1, a0_, .ref q1_), (0, 2, a0_, .ref q2_), (5, 1, q1_, .ref q3_), (8, 8, q0_, .int y0_)]) rfl (fun r_1 fr_1 H locs hp hMr_1 g => ?_)
  have hG_2 := eJx.frame hMr_1 go_.2.2.2.1 ma0_ ka0_ (by decide) (by decide) hGia0_
  have hG_3 := cOK.frame hMr_1 go_.2.2.2.1 mq2_ kq2_ (by decide) (by decide) hGcq2_
  have hG_4 := dOK.frame hMr_1 go_.2.2.2.1 mq2_ kq2_ (by decide) (by decide) hGdq2_
  have hG_5 := jS.frame hMr_1 go_.2.2.2.1 mq2_ kq2_ (by decide) (by decide) hGsq2_
  have hG_6 := eOK.frame hMr_1 go_.2.2.2.1 ma0_ ka0_ (by decide) (by decide) hGea0_
  refine lv_lstore_n (lv' := [(1, .long r_1), (0, .ref a0_)]) hx hb dX0_readName_7 rfl hl (by decide) rfl (fun ls hl => ?_)
  refine lv_aload_n hx hb dX0_readName_8 rfl (lv_at hl 1 rfl) ?_
  refine g_getk (C := RX0) (T := TX0) (N := 14) hx hb hts (mc_ inX0) hown hK g rfl 0 (by decide) rfl (hts _ (List.mem_cons_of_mem _ t_373)) (fun _ h9 => h9) 0 rfl dX0_readName_9 ?_
  have go_ := g
  refine g_calli (va_runV (As := []) (rest := []) ⟨hx, hb, hml, hown, hts⟩ (r_X8_place l dC dI L kd tys fr_1 H.size g.2.2.2.1 q0_ mq0_ kq0_) (cwV 0 hts (gV_ t_1220 t_1111 t_1112 t_184 t_1113) rfl rfl rfl (by decide +kernel) ⟨(Nat.le_of_ble_eq_true rfl), (Nat.le_of_ble_eq_true rfl)⟩) (pre3V g hK mq0_ kq0_ (by decide) (q := (RX8, TX8, 10)) rfl) rfl rfl hl.1 rfl (lv_room (Nat.le_of_ble_eq_true rfl)) dX0_readName_12 ⟨(Nat.le_of_ble_eq_true rfl), (Nat.le_of_ble_eq_true rfl)⟩) g hK (by decide) (by decide) (fx' := [(0, 0, a0_, .ref q0_), (0, 1, a0_, .ref q1_), (0, 2, a0_, .ref q2_), (5, 1, q1_, .ref q3_), (8, 8, q0_, .int y0_)]) rfl (fun r_7 fr_7 H locs hp hMr_7 g => ?_)
  have hG_8 := eJx.frame hMr_7 go_.2.2.2.1 ma0_ ka0_ (by decide) (by decide) hG_2
  have hG_9 := cOK.frame hMr_7 go_.2.2.2.1 mq2_ kq2_ (by decide) (by decide) hG_3
  have hG_10 := dOK.frame hMr_7 go_.2.2.2.1 mq2_ kq2_ (by decide) (by decide) hG_4
  have hG_11 := jS.frame hMr_7 go_.2.2.2.1 mq2_ kq2_ (by decide) (by decide) hG_5
  have hG_12 := eOK.frame hMr_7 go_.2.2.2.1 ma0_ ka0_ (by decide) (by decide) hG_6
  refine lv_istore_n (lv' := [(3, .int r_7), (1, .long r_1), (0, .ref a0_)]) hx hb dX0_readName_15 rfl hl (by decide) rfl (fun ls hl => ?_)
  refine lv_aload_n hx hb dX0_readName_16 rfl (lv_at hl 2 rfl) ?_
  refine g_getk (C := RX0) (T := TX0) (N := 14) hx hb hts (mc_ inX0) hown hK g rfl 0 (by decide) rfl (hts _ (List.mem_cons_of_mem _ t_373)) (fun _ h9 => h9) 0 rfl dX0_readName_17 ?_
  have go_ := g
  refine g_callv (va_runV (As := []) (rest := []) ⟨hx, hb, hml, hown, hts⟩ (r_X8_next l dC dI L kd tys fr_7 H.size g.2.2.2.1 q0_ mq0_ kq0_) (cwV 0 hts (gV_ t_1225 t_1103 t_1104 t_184 t_1105) rfl rfl rfl (by decide +kernel) ⟨(Nat.le_of_ble_eq_true rfl), (Nat.le_of_ble_eq_true rfl)⟩) (pre3V g hK mq0_ kq0_ (by decide) (q := (RX8, TX8, 10)) rfl) rfl rfl hl.1 rfl (lv_room (Nat.le_of_ble_eq_true rfl)) dX0_readName_20 ⟨(Nat.le_of_ble_eq_true rfl), (Nat.le_of_ble_eq_true rfl)⟩) g hK (by decide) (by decide) (fx' := [(0, 0, a0_, .ref q0_), (0, 1, a0_, .ref q1_), (0, 2, a0_, .ref q2_), (5, 1, q1_, .ref q3_), (8, 8, q0_, .int y0_)]) rfl (fun fr_13 H locs hp hMr_13 g => ?_)
  obtain ⟨x_14, h_15, hF_16⟩ := hp
  have hG_17 := eJx.frame hMr_13 go_.2.2.2.1 ma0_ ka0_ (by decide) (by decide) hG_8
  have hG_18 := cOK.frame hMr_13 go_.2.2.2.1 mq2_ kq2_ (by decide) (by decide) hG_9
  have hG_19 := dOK.frame hMr_13 go_.2.2.2.1 mq2_ kq2_ (by decide) (by decide) hG_10
  have hG_20 := jS.frame hMr_13 go_.2.2.2.1 mq2_ kq2_ (by decide) (by decide) hG_11
  have hG_21 := eOK.frame hMr_13 go_.2.2.2.1 ma0_ ka0_ (by decide) (by decide) hG_12
  have g := g.more hF_16
  refine lv_aload_n hx hb dX0_readName_23 rfl (lv_at hl 2 rfl) ?_
  refine g_getk (C := RX0) (T := TX0) (N := 14) hx hb hts (mc_ inX0) hown hK g rfl 0 (by decide) rfl (hts _ (List.mem_cons_of_mem _ t_373)) (fun _ h9 => h9) 1 rfl dX0_readName_24 ?_
  have go_ := g
  refine g_calli (va_runV (As := []) (rest := []) ⟨hx, hb, hml, hown, hts⟩ (r_X8_atBracket l dC dI L kd tys fr_13 H.size g.2.2.2.1 q0_ mq0_ kq0_) (cwV 0 hts (gV_ t_1239 t_1240 t_1241 t_184 t_1242) rfl rfl rfl (by decide +kernel) ⟨(Nat.le_of_ble_eq_true rfl), (Nat.le_of_ble_eq_true rfl)⟩) (pre3V g hK mq0_ kq0_ (by decide) (q := (RX8, TX8, 10)) rfl) rfl rfl hl.1 rfl (lv_room (Nat.le_of_ble_eq_true rfl)) dX0_readName_27 ⟨(Nat.le_of_ble_eq_true rfl), (Nat.le_of_ble_eq_true rfl)⟩) g hK (by decide) (by decide) (fx' := [(8, 6, q0_, .int x_14), (0, 0, a0_, .ref q0_), (0, 1, a0_, .ref q1_), (0, 2, a0_, .ref q2_), (5, 1, q1_, .ref q3_), (8, 8, q0_, .int y0_)]) rfl (fun r_22 fr_22 H locs hp hMr_22 g => ?_)
  obtain ⟨h_23, -⟩ := hp
  have hG_24 := eJx.frame hMr_22 go_.2.2.2.1 ma0_ ka0_ (by decide) (by decide) hG_17
  have hG_25 := cOK.frame hMr_22 go_.2.2.2.1 mq2_ kq2_ (by decide) (by decide) hG_18
  have hG_26 := dOK.frame hMr_22 go_.2.2.2.1 mq2_ kq2_ (by decide) (by decide) hG_19
  have hG_27 := jS.frame hMr_22 go_.2.2.2.1 mq2_ kq2_ (by decide) (by decide) hG_20
  have hG_28 := eOK.frame hMr_22 go_.2.2.2.1 ma0_ ka0_ (by decide) (by decide) hG_21
  have kb_0 : bd 0 0 (0 : Int32) := ⟨by decide, by decide⟩
  refine lv_if_eq (tgt := 130) hx hb dX0_readName_30 (by decide) (fun c_29 => ?_) (fun c_29 => ?_)
  · have fc_29 := eq_f c_29
    have b_30 : bd 0 0 r_22 := eqX fc_29 h_23 kb_0 (by decide)
    refine lv_aload_n hx hb dX0_readName_130 rfl (lv_at hl 2 rfl) ?_
    refine g_getk (C := RX0) (T := TX0) (N := 14) hx hb hts (mc_ inX0) hown hK g rfl 1 (by decide) rfl (hts _ (List.mem_cons_of_mem _ t_374)) (fun _ h9 => h9) 2 rfl dX0_readName_131 ?_
    refine lv_lload_n hx hb dX0_readName_134 rfl (lv_at hl 1 rfl) ?_
    have go_ := g
    refine g_calli (va_runV (As := [.long r_1]) (rest := []) ⟨hx, hb, hml, hown, hts⟩ (r_X5_placeNamed l dC dI L kd tys fr_22 H.size g.2.2.2.1 q1_ mq1_ kq1_ r_1 q3_ mq3_ kq3_ (g.fcts [4] rfl)) (cwV 1 hts (gV_ t_1251 t_1252 t_1253 t_189 t_1254) rfl rfl rfl (by decide +kernel) ⟨(Nat.le_of_ble_eq_true rfl), (Nat.le_of_ble_eq_true rfl)⟩) (pre3V g hK mq1_ kq1_ (by decide) (q := (RX5, TX5, 9)) rfl) rfl rfl hl.1 rfl (lv_room (Nat.le_of_ble_eq_true rfl)) dX0_readName_135 ⟨(Nat.le_of_ble_eq_true rfl), (Nat.le_of_ble_eq_true rfl)⟩) g hK (by decide) (by decide) (fx' := [(8, 6, q0_, .int x_14), (0, 0, a0_, .ref q0_), (0, 1, a0_, .ref q1_), (0, 2, a0_, .ref q2_), (5, 1, q1_, .ref q3_), (8, 8, q0_, .int y0_)]) rfl (fun r_31 fr_31 H locs hp hMr_31 g => ?_)
    obtain ⟨h_32, -⟩ := hp
    have hG_33 := eJx.frame hMr_31 go_.2.2.2.1 ma0_ ka0_ (by decide) (by decide) hG_24
    have hG_34 := cOK.frame hMr_31 go_.2.2.2.1 mq2_ kq2_ (by decide) (by decide) hG_25
    have hG_35 := dOK.frame hMr_31 go_.2.2.2.1 mq2_ kq2_ (by decide) (by decide) hG_26
    have hG_36 := jS.frame hMr_31 go_.2.2.2.1 mq2_ kq2_ (by decide) (by decide) hG_27
    have hG_37 := eOK.frame hMr_31 go_.2.2.2.1 ma0_ ka0_ (by decide) (by decide) hG_28
    refine lv_istore (lv' := [(4, .int r_31), (3, .int r_7), (1, .long r_1), (0, .ref a0_)]) hx hb dX0_readName_138 hl (by decide) rfl (fun ls hl => ?_)
    refine lv_iload hx hb dX0_readName_140 (lv_at hl 0 rfl) ?_
    refine lv_iconst (v := (-1)) hx hb dX0_readName_142 (by decide) ?_
    have kb_m1 : bd (-1) (-1) ((-1) : Int32) := ⟨by decide, by decide⟩
    refine lv_icmp_ne (tgt := 156) hx hb dX0_readName_143 (by decide) (fun c_38 => ?_) (fun c_38 => ?_)
    · have fc_38 := neq_f c_38
      have b_39 : bd 0 26 r_31 := neX fc_38 h_32 kb_m1 (by decide)
      refine lv_aload_n hx hb dX0_readName_156 rfl (lv_at hl 3 rfl) ?_
      refine g_getk (C := RX0) (T := TX0) (N := 14) hx hb hts (mc_ inX0) hown hK g rfl 2 (by decide) rfl (hts _ (List.mem_cons_of_mem _ t_375)) (fun _ h9 => h9) 3 rfl dX0_readName_157 ?_
      refine lv_dup hx hb dX0_readName_160 rfl ?_
      refine g_geti (C := RX7) (T := TX7) (N := 19) hx hb hts (mc_ inX7) hown hK g mq2_ kq2_ (by decide) rfl 18 (by decide) rfl (hts _ (List.mem_cons_of_mem _ t_681)) (fun _ h9 => h9) rfl dX0_readName_161 (fun x_40 bx_40 g => ?_)
      refine lv_iconst (v := 1) hx hb dX0_readName_164 (by decide) ?_
      have kb_1 : bd 1 1 (1 : Int32) := ⟨by decide, by decide⟩
      refine lv_iadd hx hb dX0_readName_165 ?_
      refine lv_topi (fun y_41 ey_41 => ?_)
      have go_ := g
      refine g_put (C := RX7) (T := TX7) (N := 19) hx hb hts (mc_ inX7) tyX7 tyX7_ok nmX7 hown hK g mq2_ kq2_ (by decide) rfl 18 (by decide) (hts _ (List.mem_cons_of_mem _ t_681)) (fun _ h9 => h9) rfl rfl (okV_i (bdT y_41)) rfl rfl (by decide) (Or.inr (Or.inl (by decide))) (fx' := [(8, 6, q0_, .int x_14), (0, 0, a0_, .ref q0_), (0, 1, a0_, .ref q1_), (0, 2, a0_, .ref q2_), (5, 1, q1_, .ref q3_), (8, 8, q0_, .int y0_)]) rfl dX0_readName_166 (fun f H locs hM_42 g => ?_)
      have hG_43 := eJx.frame hM_42 go_.2.2.2.1 ma0_ ka0_ (by decide) (by decide) hG_33
      have hG_44 := cOK.frame hM_42 go_.2.2.2.1 mq2_ kq2_ (by decide) (by decide) hG_34
      have hG_45 := dOK.frame hM_42 go_.2.2.2.1 mq2_ kq2_ (by decide) (by decide) hG_35
      have hG_46 := jS.frame hM_42 go_.2.2.2.1 mq2_ kq2_ (by decide) (by decide) hG_36
      have hG_47 := eOK.frame hM_42 go_.2.2.2.1 ma0_ ka0_ (by decide) (by decide) hG_37
      refine lv_aload_n hx hb dX0_readName_169 rfl (lv_at hl 3 rfl) ?_
      refine g_getk (C := RX0) (T := TX0) (N := 14) hx hb hts (mc_ inX0) hown hK g rfl 1 (by decide) rfl (hts _ (List.mem_cons_of_mem _ t_374)) (fun _ h9 => h9) 3 rfl dX0_readName_170 ?_
      refine g_getk (C := RX5) (T := TX5) (N := 9) hx hb hts (mc_ inX5) hown hK g rfl 1 (by decide) rfl (hts _ (List.mem_cons_of_mem _ t_332)) (fun _ h9 => h9) 5 rfl dX0_readName_173 ?_
      refine lv_iload hx hb dX0_readName_176 (lv_at hl 0 rfl) ?_
      have go_ := g
      refine g_calli (va_runV (As := [.int r_31]) (rest := []) ⟨hx, hb, hml, hown, hts⟩ (r_X9_isRow l dC dI L kd tys f H.size g.2.2.2.1 q3_ mq3_ kq3_ r_31) (cwV 1 hts (gV_ t_1256 t_1257 t_1258 t_192 t_1259) rfl rfl rfl (by decide +kernel) ⟨(Nat.le_of_ble_eq_true rfl), (Nat.le_of_ble_eq_true rfl)⟩) (pre3V g hK mq3_ kq3_ (by decide) (q := (RX9, TX9, 13)) rfl) rfl rfl hl.1 rfl (lv_room (Nat.le_of_ble_eq_true rfl)) dX0_readName_178 ⟨(Nat.le_of_ble_eq_true rfl), (Nat.le_of_ble_eq_true rfl)⟩) g hK (by decide) (by decide) (fx' := [(7, 18, q2_, .int y_41), (8, 6, q0_, .int x_14), (0, 0, a0_, .ref q0_), (0, 1, a0_, .ref q1_), (0, 2, a0_, .ref q2_), (5, 1, q1_, .ref q3_), (8, 8, q0_, .int y0_)]) rfl (fun r_48 fr_48 H locs hp hMr_48 g => ?_)
      rcases hp with ⟨h_49, -⟩ | ⟨h_50, h_51, x_52, h_53, hF_54⟩
      · have hG_55 := eJx.frame hMr_48 go_.2.2.2.1 ma0_ ka0_ (by decide) (by decide) hG_43
        have hG_56 := cOK.frame hMr_48 go_.2.2.2.1 mq2_ kq2_ (by decide) (by decide) hG_44
        have hG_57 := dOK.frame hMr_48 go_.2.2.2.1 mq2_ kq2_ (by decide) (by decide) hG_45
        have hG_58 := jS.frame hMr_48 go_.2.2.2.1 mq2_ kq2_ (by decide) (by decide) hG_46
        have hG_59 := eOK.frame hMr_48 go_.2.2.2.1 ma0_ ka0_ (by decide) (by decide) hG_47
        obtain rfl : r_48 = 0 := h_49
        refine lv_aload_n hx hb dX0_readName_181 rfl (lv_at hl 3 rfl) ?_
        refine g_getk (C := RX0) (T := TX0) (N := 14) hx hb hts (mc_ inX0) hown hK g rfl 0 (by decide) rfl (hts _ (List.mem_cons_of_mem _ t_373)) (fun _ h9 => h9) 2 rfl dX0_readName_182 ?_
        have go_ := g
        refine g_calli (va_runV (As := []) (rest := [.int 0]) ⟨hx, hb, hml, hown, hts⟩ (r_X8_kind l dC dI L kd tys fr_48 H.size g.2.2.2.1 q0_ mq0_ kq0_) (cwV 0 hts (gV_ t_1186 t_1119 t_1120 t_184 t_1121) rfl rfl rfl (by decide +kernel) ⟨(Nat.le_of_ble_eq_true rfl), (Nat.le_of_ble_eq_true rfl)⟩) (pre3V g hK mq0_ kq0_ (by decide) (q := (RX8, TX8, 10)) rfl) rfl rfl hl.1 rfl (lv_room (Nat.le_of_ble_eq_true rfl)) dX0_readName_185 ⟨(Nat.le_of_ble_eq_true rfl), (Nat.le_of_ble_eq_true rfl)⟩) g hK (by decide) (by decide) (fx' := [(7, 18, q2_, .int y_41), (8, 6, q0_, .int x_14), (0, 0, a0_, .ref q0_), (0, 1, a0_, .ref q1_), (0, 2, a0_, .ref q2_), (5, 1, q1_, .ref q3_), (8, 8, q0_, .int y0_)]) rfl (fun r_60 fr_60 H locs hp hMr_60 g => ?_)
        have hG_61 := eJx.frame hMr_60 go_.2.2.2.1 ma0_ ka0_ (by decide) (by decide) hG_55
        have hG_62 := cOK.frame hMr_60 go_.2.2.2.1 mq2_ kq2_ (by decide) (by decide) hG_56
        have hG_63 := dOK.frame hMr_60 go_.2.2.2.1 mq2_ kq2_ (by decide) (by decide) hG_57
        have hG_64 := jS.frame hMr_60 go_.2.2.2.1 mq2_ kq2_ (by decide) (by decide) hG_58
        have hG_65 := eOK.frame hMr_60 go_.2.2.2.1 ma0_ ka0_ (by decide) (by decide) hG_59
        refine lv_bipush (v := 91) hx hb dX0_readName_188 (by decide) ?_
        have kb_91 : bd 91 91 (91 : Int32) := ⟨by decide, by decide⟩
        refine lv_icmp_ne (tgt := 197) hx hb dX0_readName_190 (by decide) (fun c_66 => ?_) (fun c_66 => ?_)
        · have fc_66 := neq_f c_66
          refine lv_iconst (v := 0) hx hb dX0_readName_197 (by decide) ?_
          refine lv_icmp_eq (tgt := 213) hx hb dX0_readName_198 (by decide) (fun c_ => ?_) (fun c_ => absurd (by decide) c_)
          refine lv_aload_n hx hb dX0_readName_213 rfl (lv_at hl 3 rfl) ?_
          refine g_getk (C := RX0) (T := TX0) (N := 14) hx hb hts (mc_ inX0) hown hK g rfl 1 (by decide) rfl (hts _ (List.mem_cons_of_mem _ t_374)) (fun _ h9 => h9) 3 rfl dX0_readName_214 ?_
          refine g_getk (C := RX5) (T := TX5) (N := 9) hx hb hts (mc_ inX5) hown hK g rfl 1 (by decide) rfl (hts _ (List.mem_cons_of_mem _ t_332)) (fun _ h9 => h9) 5 rfl dX0_readName_217 ?_
          refine lv_iload hx hb dX0_readName_220 (lv_at hl 0 rfl) ?_
          have go_ := g
          refine g_calli (va_runV (As := [.int r_31]) (rest := []) ⟨hx, hb, hml, hown, hts⟩ (r_X9_isRow l dC dI L kd tys fr_60 H.size g.2.2.2.1 q3_ mq3_ kq3_ r_31) (cwV 1 hts (gV_ t_1256 t_1257 t_1258 t_192 t_1259) rfl rfl rfl (by decide +kernel) ⟨(Nat.le_of_ble_eq_true rfl), (Nat.le_of_ble_eq_true rfl)⟩) (pre3V g hK mq3_ kq3_ (by decide) (q := (RX9, TX9, 13)) rfl) rfl rfl hl.1 rfl (lv_room (Nat.le_of_ble_eq_true rfl)) dX0_readName_222 ⟨(Nat.le_of_ble_eq_true rfl), (Nat.le_of_ble_eq_true rfl)⟩) g hK (by decide) (by decide) (fx' := [(7, 18, q2_, .int y_41), (8, 6, q0_, .int x_14), (0, 0, a0_, .ref q0_), (0, 1, a0_, .ref q1_), (0, 2, a0_, .ref q2_), (5, 1, q1_, .ref q3_), (8, 8, q0_, .int y0_)]) rfl (fun r_67 fr_67 H locs hp hMr_67 g => ?_)
          rcases hp with ⟨h_68, -⟩ | ⟨h_69, h_70, x_71, h_72, hF_73⟩
          · have hG_74 := eJx.frame hMr_67 go_.2.2.2.1 ma0_ ka0_ (by decide) (by decide) hG_61
            have hG_75 := cOK.frame hMr_67 go_.2.2.2.1 mq2_ kq2_ (by decide) (by decide) hG_62
            have hG_76 := dOK.frame hMr_67 go_.2.2.2.1 mq2_ kq2_ (by decide) (by decide) hG_63
            have hG_77 := jS.frame hMr_67 go_.2.2.2.1 mq2_ kq2_ (by decide) (by decide) hG_64
            have hG_78 := eOK.frame hMr_67 go_.2.2.2.1 ma0_ ka0_ (by decide) (by decide) hG_65
            obtain rfl : r_67 = 0 := h_68
            refine lv_if_eq (tgt := 239) hx hb dX0_readName_225 (by decide) (fun c_ => ?_) (fun c_ => absurd (by decide) c_)
            refine lv_iload hx hb dX0_readName_239 (lv_at hl 0 rfl) ?_
            refine lv_bipush (v := 16) hx hb dX0_readName_241 (by decide) ?_
            have kb_16 : bd 16 16 (16 : Int32) := ⟨by decide, by decide⟩
            refine lv_icmp_lt (tgt := 267) hx hb dX0_readName_243 (by decide) (fun c_79 => ?_) (fun c_79 => ?_)
            · have fc_79 := lt_f c_79
              have b_80 : bd 0 15 r_31 := ltL fc_79 b_39 kb_16 (by decide)
              refine lv_aload_n hx hb dX0_readName_267 rfl (lv_at hl 3 rfl) ?_
              refine g_getk (C := RX0) (T := TX0) (N := 14) hx hb hts (mc_ inX0) hown hK g rfl 2 (by decide) rfl (hts _ (List.mem_cons_of_mem _ t_375)) (fun _ h9 => h9) 4 rfl dX0_readName_268 ?_
              refine lv_iconst (v := 3) hx hb dX0_readName_271 (by decide) ?_
              refine lv_aload_n hx hb dX0_readName_272 rfl (lv_at hl 3 rfl) ?_
              refine g_getk (C := RX0) (T := TX0) (N := 14) hx hb hts (mc_ inX0) hown hK g rfl 1 (by decide) rfl (hts _ (List.mem_cons_of_mem _ t_374)) (fun _ h9 => h9) 3 rfl dX0_readName_273 ?_
              refine g_getk (C := RX5) (T := TX5) (N := 9) hx hb hts (mc_ inX5) hown hK g rfl 1 (by decide) rfl (hts _ (List.mem_cons_of_mem _ t_332)) (fun _ h9 => h9) 5 rfl dX0_readName_276 ?_
              refine lv_iload hx hb dX0_readName_279 (lv_at hl 0 rfl) ?_
              have go_ := g
              refine g_calli (va_runV (As := [.int r_31]) (rest := [.int 3, .ref q2_]) ⟨hx, hb, hml, hown, hts⟩ (r_X9_spanOf l dC dI L kd tys fr_67 H.size g.2.2.2.1 q3_ mq3_ kq3_ r_31) (cwV 1 hts (gV_ t_1264 t_1265 t_1266 t_192 t_1267) rfl rfl rfl (by decide +kernel) ⟨(Nat.le_of_ble_eq_true rfl), (Nat.le_of_ble_eq_true rfl)⟩) (pre3V g hK mq3_ kq3_ (by decide) (q := (RX9, TX9, 13)) rfl) rfl rfl hl.1 rfl (lv_room (Nat.le_of_ble_eq_true rfl)) dX0_readName_281 ⟨(Nat.le_of_ble_eq_true rfl), (Nat.le_of_ble_eq_true rfl)⟩) g hK (by decide) (by decide) (fx' := [(7, 18, q2_, .int y_41), (8, 6, q0_, .int x_14), (0, 0, a0_, .ref q0_), (0, 1, a0_, .ref q1_), (0, 2, a0_, .ref q2_), (5, 1, q1_, .ref q3_), (8, 8, q0_, .int y0_)]) rfl (fun r_81 fr_81 H locs hp hMr_81 g => ?_)
              obtain ⟨h_82, -⟩ := hp
              have hG_83 := eJx.frame hMr_81 go_.2.2.2.1 ma0_ ka0_ (by decide) (by decide) hG_74
              have hG_84 := cOK.frame hMr_81 go_.2.2.2.1 mq2_ kq2_ (by decide) (by decide) hG_75
              have hG_85 := dOK.frame hMr_81 go_.2.2.2.1 mq2_ kq2_ (by decide) (by decide) hG_76
              have hG_86 := jS.frame hMr_81 go_.2.2.2.1 mq2_ kq2_ (by decide) (by decide) hG_77
              have hG_87 := eOK.frame hMr_81 go_.2.2.2.1 ma0_ ka0_ (by decide) (by decide) hG_78
              obtain ⟨a_88, ma_88, ka_88, g⟩ := g_factr g mq2_ kq2_ (by decide) 4 rfl
              obtain ⟨a_89, ma_89, ka_89, g⟩ := g_factr g mq2_ kq2_ (by decide) 5 rfl
              obtain ⟨x_90, bx_90, g⟩ := g_facti g mq2_ kq2_ (by decide) 6 rfl
              have kb_3 : bd 3 3 (3 : Int32) := ⟨by decide, by decide⟩
              have go_ := g
              refine g_callv (va_runV (As := [.int 3, .int r_81]) (rest := []) ⟨hx, hb, hml, hown, hts⟩ (r_X7_emitN l dC dI L kd tys fr_81 H.size g.2.2.2.1 q2_ mq2_ kq2_ a_88 ma_88 ka_88 a_89 ma_89 ka_89 x_90 bx_90 T_ hG_85 (3 : Int32) r_81 (fun j9 => jOK fr_81 q2_ j9) hG_84 (fun _ h9 => h9) ⟨(fun h9 => ⟨(by have h9_0 := b_30; unfold bd at h9_0; have h9_1 := b_80; unfold bd at h9_1; have h9_2 := h_82; unfold bd at h9_2; have h9_3 := h_15; unfold bd at h9_3; have h9_4 := bx_90; unfold bd at h9_4; have h9_5 := by0_; unfold bd at h9_5; have h8_0 := kb_0; unfold bd at h8_0; have h8_1 := kb_1; unfold bd at h8_1; have h8_2 := kb_16; unfold bd at h8_2; have h8_3 := kb_3; unfold bd at h8_3; have h8_4 := kb_91; unfold bd at h8_4; have h8_5 := kb_m1; unfold bd at h8_5; omega), (by have h9_0 := b_30; unfold bd at h9_0; have h9_1 := b_80; unfold bd at h9_1; have h9_2 := h_82; unfold bd at h9_2; have h9_3 := h_15; unfold bd at h9_3; have h9_4 := bx_90; unfold bd at h9_4; have h9_5 := by0_; unfold bd at h9_5; have h8_0 := kb_0; unfold bd at h8_0; have h8_1 := kb_1; unfold bd at h8_1; have h8_2 := kb_16; unfold bd at h8_2; have h8_3 := kb_3; unfold bd at h8_3; have h8_4 := kb_91; unfold bd at h8_4; have h8_5 := kb_m1; unfold bd at h8_5; omega)⟩), (fun h9 => ⟨(by have h9_0 := b_30; unfold bd at h9_0; have h9_1 := b_80; unfold bd at h9_1; have h9_2 := h_82; unfold bd at h9_2; have h9_3 := h_15; unfold bd at h9_3; have h9_4 := bx_90; unfold bd at h9_4; have h9_5 := by0_; unfold bd at h9_5; have h8_0 := kb_0; unfold bd at h8_0; have h8_1 := kb_1; unfold bd at h8_1; have h8_2 := kb_16; unfold bd at h8_2; have h8_3 := kb_3; unfold bd at h8_3; have h8_4 := kb_91; unfold bd at h8_4; have h8_5 := kb_m1; unfold bd at h8_5; omega), (by have h9_0 := b_30; unfold bd at h9_0; have h9_1 := b_80; unfold bd at h9_1; have h9_2 := h_82; unfold bd at h9_2; have h9_3 := h_15; unfold bd at h9_3; have h9_4 := bx_90; unfold bd at h9_4; have h9_5 := by0_; unfold bd at h9_5; have h8_0 := kb_0; unfold bd at h8_0; have h8_1 := kb_1; unfold bd at h8_1; have h8_2 := kb_16; unfold bd at h8_2; have h8_3 := kb_3; unfold bd at h8_3; have h8_4 := kb_91; unfold bd at h8_4; have h8_5 := kb_m1; unfold bd at h8_5; omega)⟩), (fun h9 => ⟨(by have h9_0 := b_30; unfold bd at h9_0; have h9_1 := b_80; unfold bd at h9_1; have h9_2 := h_82; unfold bd at h9_2; have h9_3 := h_15; unfold bd at h9_3; have h9_4 := bx_90; unfold bd at h9_4; have h9_5 := by0_; unfold bd at h9_5; have h8_0 := kb_0; unfold bd at h8_0; have h8_1 := kb_1; unfold bd at h8_1; have h8_2 := kb_16; unfold bd at h8_2; have h8_3 := kb_3; unfold bd at h8_3; have h8_4 := kb_91; unfold bd at h8_4; have h8_5 := kb_m1; unfold bd at h8_5; omega), (by have h9_0 := b_30; unfold bd at h9_0; have h9_1 := b_80; unfold bd at h9_1; have h9_2 := h_82; unfold bd at h9_2; have h9_3 := h_15; unfold bd at h9_3; have h9_4 := bx_90; unfold bd at h9_4; have h9_5 := by0_; unfold bd at h9_5; have h8_0 := kb_0; unfold bd at h8_0; have h8_1 := kb_1; unfold bd at h8_1; have h8_2 := kb_16; unfold bd at h8_2; have h8_3 := kb_3; unfold bd at h8_3; have h8_4 := kb_91; unfold bd at h8_4; have h8_5 := kb_m1; unfold bd at h8_5; omega)⟩)⟩ (g.fcts [2, 1, 0] rfl)) (cwV 2 hts (gV_ t_1203 t_1204 t_1205 t_191 t_1206) rfl rfl rfl (by decide +kernel) ⟨(Nat.le_of_ble_eq_true rfl), (Nat.le_of_ble_eq_true rfl)⟩) (pre3V g hK mq2_ kq2_ (by decide) (q := (RX7, TX7, 19)) rfl) rfl rfl hl.1 rfl (lv_room (Nat.le_of_ble_eq_true rfl)) dX0_readName_284 ⟨(Nat.le_of_ble_eq_true rfl), (Nat.le_of_ble_eq_true rfl)⟩) g hK (by decide) (by decide) (fx' := [(7, 5, q2_, .ref a_89), (7, 4, q2_, .ref a_88), (7, 18, q2_, .int y_41), (8, 6, q0_, .int x_14), (0, 0, a0_, .ref q0_), (0, 1, a0_, .ref q1_), (0, 2, a0_, .ref q2_), (5, 1, q1_, .ref q3_), (8, 8, q0_, .int y0_)]) rfl (fun fr_91 H locs hp hMr_91 g => ?_)
              obtain ⟨hG_92, hG_93, hG_94, hx_95, x_96, h_97, hF_98⟩ := hp
              have hG_99 := eOK.frame hMr_91 go_.2.2.2.1 ma0_ ka0_ (by decide) (by decide) hG_87
              have g := g.more hF_98
              have hs_100 := jS.mv hG_86 hG_94
              have hG_101 := eJx.mv hG_83 hMr_91 go_.2.2.2.1 ma0_ ka0_ (by decide) (by decide) (((hMr_91 a0_ ma0_).1 2 (by rw [ka0_]; decide) (by rw [ka0_]; decide)).symm.trans (fx_at g (i := 7) rfl).2.2.2) hG_94
              refine lv_aload_n hx hb dX0_readName_287 rfl (lv_at hl 3 rfl) ?_
              refine lv_iconst (v := 1) hx hb dX0_readName_288 (by decide) ?_
              have go_ := g
              refine g_callv (va_runV (As := [.int 1]) (rest := []) ⟨hx, hb, hml, hown, hts⟩ (r_X0_addWhole l dC dI L kd tys fr_91 H.size g.2.2.2.1 a0_ ma0_ ka0_ 1) (cwV 1 hts (gV_ t_1211 t_1213 t_17 t_190 t_1214) rfl rfl rfl (by decide +kernel) ⟨(Nat.le_of_ble_eq_true rfl), (Nat.le_of_ble_eq_true rfl)⟩) (pre3V g hK ma0_ ka0_ (by decide) (q := (RX0, TX0, 14)) rfl) rfl rfl hl.1 rfl (lv_room (Nat.le_of_ble_eq_true rfl)) dX0_readName_289 ⟨(Nat.le_of_ble_eq_true rfl), (Nat.le_of_ble_eq_true rfl)⟩) g hK (by decide) (by decide) (fx' := [(7, 6, q2_, .int x_96), (7, 5, q2_, .ref a_89), (7, 4, q2_, .ref a_88), (7, 18, q2_, .int y_41), (8, 6, q0_, .int x_14), (0, 0, a0_, .ref q0_), (0, 1, a0_, .ref q1_), (0, 2, a0_, .ref q2_), (5, 1, q1_, .ref q3_), (8, 8, q0_, .int y0_)]) rfl (fun fr_102 H locs hp hMr_102 g => ?_)
              obtain ⟨x_103, h_104, hF_105⟩ := hp
              have hG_106 := cOK.frame hMr_102 go_.2.2.2.1 mq2_ kq2_ (by decide) (by decide) hG_93
              have hG_107 := dOK.frame hMr_102 go_.2.2.2.1 mq2_ kq2_ (by decide) (by decide) hG_92
              have hG_108 := jS.frame hMr_102 go_.2.2.2.1 mq2_ kq2_ (by decide) (by decide) hs_100
              have hG_109 := eOK.frame hMr_102 go_.2.2.2.1 ma0_ ka0_ (by decide) (by decide) hG_99
              have hG_110 := eJx.frame hMr_102 go_.2.2.2.1 ma0_ ka0_ (by decide) (by decide) hG_101
              have g := g.more hF_105
              subst hQ
              exact W.vret hx hb hr (fun t ht hW => ⟨⟨_, rfl, Or.inl ⟨hG_110, hG_106, hG_107, hG_108, hG_109, x_14, h_15, (g.fcts [6, 11] rfl)⟩, q3_of g hK ht hW⟩, g.2.2.1.F ht⟩) g.2.2.1.2.2 dX0_readName_292
            · have fc_79 := nlt_f c_79
              have b_111 : bd 16 26 r_31 := leR fc_79 kb_16 b_39 (by decide)
              refine lv_aload_n hx hb dX0_readName_246 rfl (lv_at hl 3 rfl) ?_
              refine g_getk (C := RX0) (T := TX0) (N := 14) hx hb hts (mc_ inX0) hown hK g rfl 2 (by decide) rfl (hts _ (List.mem_cons_of_mem _ t_375)) (fun _ h9 => h9) 4 rfl dX0_readName_247 ?_
              refine lv_iconst (v := 2) hx hb dX0_readName_250 (by decide) ?_
              refine lv_iload hx hb dX0_readName_251 (lv_at hl 0 rfl) ?_
              refine lv_bipush (v := 16) hx hb dX0_readName_253 (by decide) ?_
              refine lv_isub hx hb dX0_readName_255 ?_
              refine lv_topi (fun y_112 ey_112 => ?_)
              have ty_112 := sub_bd ey_112 b_111 kb_16 (by decide)
              have b_113 : bd 0 10 y_112 := sub_rg ty_112 b_111 kb_16 (by decide)
              obtain ⟨a_114, ma_114, ka_114, g⟩ := g_factr g mq2_ kq2_ (by decide) 4 rfl
              obtain ⟨a_115, ma_115, ka_115, g⟩ := g_factr g mq2_ kq2_ (by decide) 5 rfl
              obtain ⟨x_116, bx_116, g⟩ := g_facti g mq2_ kq2_ (by decide) 6 rfl
              have kb_2 : bd 2 2 (2 : Int32) := ⟨by decide, by decide⟩
              have go_ := g
              refine g_callv (va_runV (As := [.int 2, .int y_112]) (rest := []) ⟨hx, hb, hml, hown, hts⟩ (r_X7_emitN l dC dI L kd tys fr_67 H.size g.2.2.2.1 q2_ mq2_ kq2_ a_114 ma_114 ka_114 a_115 ma_115 ka_115 x_116 bx_116 T_ hG_76 (2 : Int32) y_112 (fun j9 => jOK fr_67 q2_ j9) hG_75 (fun _ h9 => h9) ⟨(fun h9 => ⟨(by have h9_0 := b_30; unfold bd at h9_0; have h9_1 := b_111; unfold bd at h9_1; have h9_2 := bx_116; unfold bd at h9_2; have h9_3 := h_15; unfold bd at h9_3; have h9_4 := by0_; unfold bd at h9_4; have h9_5 := b_113; unfold bd at h9_5; have h8_0 := kb_0; unfold bd at h8_0; have h8_1 := kb_1; unfold bd at h8_1; have h8_2 := kb_16; unfold bd at h8_2; have h8_3 := kb_2; unfold bd at h8_3; have h8_4 := kb_91; unfold bd at h8_4; have h8_5 := kb_m1; unfold bd at h8_5; omega), (by have h9_0 := b_30; unfold bd at h9_0; have h9_1 := b_111; unfold bd at h9_1; have h9_2 := bx_116; unfold bd at h9_2; have h9_3 := h_15; unfold bd at h9_3; have h9_4 := by0_; unfold bd at h9_4; have h9_5 := b_113; unfold bd at h9_5; have h8_0 := kb_0; unfold bd at h8_0; have h8_1 := kb_1; unfold bd at h8_1; have h8_2 := kb_16; unfold bd at h8_2; have h8_3 := kb_2; unfold bd at h8_3; have h8_4 := kb_91; unfold bd at h8_4; have h8_5 := kb_m1; unfold bd at h8_5; omega)⟩), (fun h9 => ⟨(by have h9_0 := b_30; unfold bd at h9_0; have h9_1 := b_111; unfold bd at h9_1; have h9_2 := bx_116; unfold bd at h9_2; have h9_3 := h_15; unfold bd at h9_3; have h9_4 := by0_; unfold bd at h9_4; have h9_5 := b_113; unfold bd at h9_5; have h8_0 := kb_0; unfold bd at h8_0; have h8_1 := kb_1; unfold bd at h8_1; have h8_2 := kb_16; unfold bd at h8_2; have h8_3 := kb_2; unfold bd at h8_3; have h8_4 := kb_91; unfold bd at h8_4; have h8_5 := kb_m1; unfold bd at h8_5; omega), (by have h9_0 := b_30; unfold bd at h9_0; have h9_1 := b_111; unfold bd at h9_1; have h9_2 := bx_116; unfold bd at h9_2; have h9_3 := h_15; unfold bd at h9_3; have h9_4 := by0_; unfold bd at h9_4; have h9_5 := b_113; unfold bd at h9_5; have h8_0 := kb_0; unfold bd at h8_0; have h8_1 := kb_1; unfold bd at h8_1; have h8_2 := kb_16; unfold bd at h8_2; have h8_3 := kb_2; unfold bd at h8_3; have h8_4 := kb_91; unfold bd at h8_4; have h8_5 := kb_m1; unfold bd at h8_5; omega)⟩), (fun h9 => ⟨(by have h9_0 := b_30; unfold bd at h9_0; have h9_1 := b_111; unfold bd at h9_1; have h9_2 := bx_116; unfold bd at h9_2; have h9_3 := h_15; unfold bd at h9_3; have h9_4 := by0_; unfold bd at h9_4; have h9_5 := b_113; unfold bd at h9_5; have h8_0 := kb_0; unfold bd at h8_0; have h8_1 := kb_1; unfold bd at h8_1; have h8_2 := kb_16; unfold bd at h8_2; have h8_3 := kb_2; unfold bd at h8_3; have h8_4 := kb_91; unfold bd at h8_4; have h8_5 := kb_m1; unfold bd at h8_5; omega), (by have h9_0 := b_30; unfold bd at h9_0; have h9_1 := b_111; unfold bd at h9_1; have h9_2 := bx_116; unfold bd at h9_2; have h9_3 := h_15; unfold bd at h9_3; have h9_4 := by0_; unfold bd at h9_4; have h9_5 := b_113; unfold bd at h9_5; have h8_0 := kb_0; unfold bd at h8_0; have h8_1 := kb_1; unfold bd at h8_1; have h8_2 := kb_16; unfold bd at h8_2; have h8_3 := kb_2; unfold bd at h8_3; have h8_4 := kb_91; unfold bd at h8_4; have h8_5 := kb_m1; unfold bd at h8_5; omega)⟩)⟩ (g.fcts [2, 1, 0] rfl)) (cwV 2 hts (gV_ t_1203 t_1204 t_1205 t_191 t_1206) rfl rfl rfl (by decide +kernel) ⟨(Nat.le_of_ble_eq_true rfl), (Nat.le_of_ble_eq_true rfl)⟩) (pre3V g hK mq2_ kq2_ (by decide) (q := (RX7, TX7, 19)) rfl) rfl rfl hl.1 rfl (lv_room (Nat.le_of_ble_eq_true rfl)) dX0_readName_256 ⟨(Nat.le_of_ble_eq_true rfl), (Nat.le_of_ble_eq_true rfl)⟩) g hK (by decide) (by decide) (fx' := [(7, 5, q2_, .ref a_115), (7, 4, q2_, .ref a_114), (7, 18, q2_, .int y_41), (8, 6, q0_, .int x_14), (0, 0, a0_, .ref q0_), (0, 1, a0_, .ref q1_), (0, 2, a0_, .ref q2_), (5, 1, q1_, .ref q3_), (8, 8, q0_, .int y0_)]) rfl (fun fr_117 H locs hp hMr_117 g => ?_)
              obtain ⟨hG_118, hG_119, hG_120, hx_121, x_122, h_123, hF_124⟩ := hp
              have hG_125 := eOK.frame hMr_117 go_.2.2.2.1 ma0_ ka0_ (by decide) (by decide) hG_78
              have g := g.more hF_124
              have hs_126 := jS.mv hG_77 hG_120
              have hG_127 := eJx.mv hG_74 hMr_117 go_.2.2.2.1 ma0_ ka0_ (by decide) (by decide) (((hMr_117 a0_ ma0_).1 2 (by rw [ka0_]; decide) (by rw [ka0_]; decide)).symm.trans (fx_at g (i := 7) rfl).2.2.2) hG_120
              refine lv_aload_n hx hb dX0_readName_259 rfl (lv_at hl 3 rfl) ?_
              refine lv_iconst (v := 1) hx hb dX0_readName_260 (by decide) ?_
              have go_ := g
              refine g_callv (va_runV (As := [.int 1]) (rest := []) ⟨hx, hb, hml, hown, hts⟩ (r_X0_addWhole l dC dI L kd tys fr_117 H.size g.2.2.2.1 a0_ ma0_ ka0_ 1) (cwV 1 hts (gV_ t_1211 t_1213 t_17 t_190 t_1214) rfl rfl rfl (by decide +kernel) ⟨(Nat.le_of_ble_eq_true rfl), (Nat.le_of_ble_eq_true rfl)⟩) (pre3V g hK ma0_ ka0_ (by decide) (q := (RX0, TX0, 14)) rfl) rfl rfl hl.1 rfl (lv_room (Nat.le_of_ble_eq_true rfl)) dX0_readName_261 ⟨(Nat.le_of_ble_eq_true rfl), (Nat.le_of_ble_eq_true rfl)⟩) g hK (by decide) (by decide) (fx' := [(7, 6, q2_, .int x_122), (7, 5, q2_, .ref a_115), (7, 4, q2_, .ref a_114), (7, 18, q2_, .int y_41), (8, 6, q0_, .int x_14), (0, 0, a0_, .ref q0_), (0, 1, a0_, .ref q1_), (0, 2, a0_, .ref q2_), (5, 1, q1_, .ref q3_), (8, 8, q0_, .int y0_)]) rfl (fun fr_128 H locs hp hMr_128 g => ?_)
              obtain ⟨x_129, h_130, hF_131⟩ := hp
              have hG_132 := cOK.frame hMr_128 go_.2.2.2.1 mq2_ kq2_ (by decide) (by decide) hG_119
              have hG_133 := dOK.frame hMr_128 go_.2.2.2.1 mq2_ kq2_ (by decide) (by decide) hG_118
              have hG_134 := jS.frame hMr_128 go_.2.2.2.1 mq2_ kq2_ (by decide) (by decide) hs_126
              have hG_135 := eOK.frame hMr_128 go_.2.2.2.1 ma0_ ka0_ (by decide) (by decide) hG_125
              have hG_136 := eJx.frame hMr_128 go_.2.2.2.1 ma0_ ka0_ (by decide) (by decide) hG_127
              have g := g.more hF_131
              refine lv_goto (tgt := 292) hx hb dX0_readName_264 (by decide) ?_
              subst hQ
              exact W.vret hx hb hr (fun t ht hW => ⟨⟨_, rfl, Or.inl ⟨hG_136, hG_132, hG_133, hG_134, hG_135, x_14, h_15, (g.fcts [6, 11] rfl)⟩, q3_of g hK ht hW⟩, g.2.2.1.F ht⟩) g.2.2.1.2.2 dX0_readName_292
          · have hG_137 := eJx.frame hMr_67 go_.2.2.2.1 ma0_ ka0_ (by decide) (by decide) hG_61
            have hG_138 := cOK.frame hMr_67 go_.2.2.2.1 mq2_ kq2_ (by decide) (by decide) hG_62
            have hG_139 := dOK.frame hMr_67 go_.2.2.2.1 mq2_ kq2_ (by decide) (by decide) hG_63
            have hG_140 := jS.frame hMr_67 go_.2.2.2.1 mq2_ kq2_ (by decide) (by decide) hG_64
            have hG_141 := eOK.frame hMr_67 go_.2.2.2.1 ma0_ ka0_ (by decide) (by decide) hG_65
            obtain rfl : r_67 = 1 := h_69
            have b_142 : bd 0 9 r_31 := eqX rfl b_39 h_70 (by decide)
            have g := g.more hF_73
            refine lv_if_eq (tgt := 239) hx hb dX0_readName_225 (by decide) (fun c_ => absurd c_ (by decide)) (fun c_ => ?_)
            refine lv_aload_n hx hb dX0_readName_228 rfl (lv_at hl 3 rfl) ?_
            refine lv_iconst (v := 4) hx hb dX0_readName_229 (by decide) ?_
            refine lv_iload_n hx hb dX0_readName_230 rfl (lv_at hl 1 rfl) ?_
            refine lv_iload hx hb dX0_readName_231 (lv_at hl 0 rfl) ?_
            have kb_4 : bd 4 4 (4 : Int32) := ⟨by decide, by decide⟩
            have go_ := g
            refine g_callv (va_runV (As := [.int 4, .int r_7, .int r_31]) (rest := []) ⟨hx, hb, hml, hown, hts⟩ (r_X0_openIndex_3 l dC dI L kd tys fr_67 H.size g.2.2.2.1 a0_ ma0_ ka0_ 4 kb_4 r_7 r_31 b_142 q0_ mq0_ kq0_ q1_ mq1_ kq1_ q2_ mq2_ kq2_ q3_ mq3_ kq3_ x_71 h_72 y0_ by0_ hG_137 hG_141 (g.fcts [3, 4, 5, 6, 0, 7] rfl)) (cwV 3 hts (gV_ t_1260 t_1262 t_24 t_190 t_1263) rfl rfl rfl (by decide +kernel) ⟨(Nat.le_of_ble_eq_true rfl), (Nat.le_of_ble_eq_true rfl)⟩) (pre3V g hK ma0_ ka0_ (by decide) (q := (RX0, TX0, 14)) rfl) rfl rfl hl.1 rfl (lv_room (Nat.le_of_ble_eq_true rfl)) dX0_readName_233 ⟨(Nat.le_of_ble_eq_true rfl), (Nat.le_of_ble_eq_true rfl)⟩) g hK (by decide) (by decide) (fx' := [(9, 2, q3_, .int x_71), (7, 18, q2_, .int y_41), (0, 0, a0_, .ref q0_), (0, 1, a0_, .ref q1_), (0, 2, a0_, .ref q2_), (5, 1, q1_, .ref q3_)]) rfl (fun fr_143 H locs hp hMr_143 g => ?_)
            rcases hp with ⟨hG_144, hG_145, x_146, h_147, x_148, h_149, x_150, h_151, hF_152⟩ | ⟨hG_153, x_154, h_155, x_156, h_157, hF_158⟩
            · have hG_159 := cOK.frame hMr_143 go_.2.2.2.1 mq2_ kq2_ (by decide) (by decide) hG_138
              have hG_160 := dOK.frame hMr_143 go_.2.2.2.1 mq2_ kq2_ (by decide) (by decide) hG_139
              have hG_161 := jS.frame hMr_143 go_.2.2.2.1 mq2_ kq2_ (by decide) (by decide) hG_140
              have g := g.more hF_152
              refine lv_goto (tgt := 292) hx hb dX0_readName_236 (by decide) ?_
              subst hQ
              exact W.vret hx hb hr (fun t ht hW => ⟨⟨_, rfl, Or.inl ⟨hG_144, hG_159, hG_160, hG_161, hG_145, x_146, h_147, (g.fcts [0, 3] rfl)⟩, q3_of g hK ht hW⟩, g.2.2.1.F ht⟩) g.2.2.1.2.2 dX0_readName_292
            · have hG_162 := cOK.frame hMr_143 go_.2.2.2.1 mq2_ kq2_ (by decide) (by decide) hG_138
              have hG_163 := dOK.frame hMr_143 go_.2.2.2.1 mq2_ kq2_ (by decide) (by decide) hG_139
              have hG_164 := jS.frame hMr_143 go_.2.2.2.1 mq2_ kq2_ (by decide) (by decide) hG_140
              have g := g.more hF_158
              refine lv_goto (tgt := 292) hx hb dX0_readName_236 (by decide) ?_
              have kb_1201 : bd 1201 1201 (1201 : Int32) := ⟨by decide, by decide⟩
              subst hQ
              exact W.vret hx hb hr (fun t ht hW => ⟨⟨_, rfl, Or.inr (⟨hG_163, hG_153, 1201, kb_1201, x_156, h_157, (g.fcts [1, 2] rfl)⟩), q3_of g hK ht hW⟩, g.2.2.1.F ht⟩) g.2.2.1.2.2 dX0_readName_292
        · have fc_66 := eq_f c_66
          have b_165 : bd 91 91 r_60 := eqX fc_66 (bdT r_60) kb_91 (by decide)
          refine lv_iconst (v := 1) hx hb dX0_readName_193 (by decide) ?_
          refine lv_goto (tgt := 198) hx hb dX0_readName_194 (by decide) ?_
          refine lv_icmp_eq (tgt := 213) hx hb dX0_readName_198 (by decide) (fun c_ => absurd c_ (by decide)) (fun c_ => ?_)
          refine lv_aload_n hx hb dX0_readName_201 rfl (lv_at hl 3 rfl) ?_
          refine g_getk (C := RX0) (T := TX0) (N := 14) hx hb hts (mc_ inX0) hown hK g rfl 0 (by decide) rfl (hts _ (List.mem_cons_of_mem _ t_373)) (fun _ h9 => h9) 2 rfl dX0_readName_202 ?_
          refine lv_iconst (v := 5) hx hb dX0_readName_205 (by decide) ?_
          refine lv_iload_n hx hb dX0_readName_206 rfl (lv_at hl 1 rfl) ?_
          have kb_5 : bd 5 5 (5 : Int32) := ⟨by decide, by decide⟩
          have go_ := g
          refine g_callv (va_runV (As := [.int 5, .int r_7]) (rest := []) ⟨hx, hb, hml, hown, hts⟩ (r_X8_fail l dC dI L kd tys fr_60 H.size g.2.2.2.1 q0_ mq0_ kq0_ 5 (bd_sub kb_5 (by decide)) r_7 y0_ by0_ (g.fcts [6] rfl)) (cwV 2 hts (gV_ t_1215 t_1107 t_1108 t_184 t_1109) rfl rfl rfl (by decide +kernel) ⟨(Nat.le_of_ble_eq_true rfl), (Nat.le_of_ble_eq_true rfl)⟩) (pre3V g hK mq0_ kq0_ (by decide) (q := (RX8, TX8, 10)) rfl) rfl rfl hl.1 rfl (lv_room (Nat.le_of_ble_eq_true rfl)) dX0_readName_207 ⟨(Nat.le_of_ble_eq_true rfl), (Nat.le_of_ble_eq_true rfl)⟩) g hK (by decide) (by decide) (fx' := [(7, 18, q2_, .int y_41), (0, 0, a0_, .ref q0_), (0, 1, a0_, .ref q1_), (0, 2, a0_, .ref q2_), (5, 1, q1_, .ref q3_)]) rfl (fun fr_166 H locs hp hMr_166 g => ?_)
          obtain ⟨x_167, h_168, hF_169⟩ := hp
          have hG_170 := eJx.frame hMr_166 go_.2.2.2.1 ma0_ ka0_ (by decide) (by decide) hG_61
          have hG_171 := cOK.frame hMr_166 go_.2.2.2.1 mq2_ kq2_ (by decide) (by decide) hG_62
          have hG_172 := dOK.frame hMr_166 go_.2.2.2.1 mq2_ kq2_ (by decide) (by decide) hG_63
          have hG_173 := jS.frame hMr_166 go_.2.2.2.1 mq2_ kq2_ (by decide) (by decide) hG_64
          have hG_174 := eOK.frame hMr_166 go_.2.2.2.1 ma0_ ka0_ (by decide) (by decide) hG_65
          have g := g.more hF_169
          refine lv_goto (tgt := 292) hx hb dX0_readName_210 (by decide) ?_
          have kb_1201 : bd 1201 1201 (1201 : Int32) := ⟨by decide, by decide⟩
          subst hQ
          exact W.vret hx hb hr (fun t ht hW => ⟨⟨_, rfl, Or.inr (⟨hG_172, hG_174, 1201, kb_1201, x_167, h_168, (g.fcts [0, 1] rfl)⟩), q3_of g hK ht hW⟩, g.2.2.1.F ht⟩) g.2.2.1.2.2 dX0_readName_292
      · have hG_175 := eJx.frame hMr_48 go_.2.2.2.1 ma0_ ka0_ (by decide) (by decide) hG_43
        have hG_176 := cOK.frame hMr_48 go_.2.2.2.1 mq2_ kq2_ (by decide) (by decide) hG_44
        have hG_177 := dOK.frame hMr_48 go_.2.2.2.1 mq2_ kq2_ (by decide) (by decide) hG_45
        have hG_178 := jS.frame hMr_48 go_.2.2.2.1 mq2_ kq2_ (by decide) (by decide) hG_46
        have hG_179 := eOK.frame hMr_48 go_.2.2.2.1 ma0_ ka0_ (by decide) (by decide) hG_47
        obtain rfl : r_48 = 1 := h_50
        have b_180 : bd 0 9 r_31 := eqX rfl b_39 h_51 (by decide)
        have g := g.more hF_54
        refine lv_aload_n hx hb dX0_readName_181 rfl (lv_at hl 3 rfl) ?_
        refine g_getk (C := RX0) (T := TX0) (N := 14) hx hb hts (mc_ inX0) hown hK g rfl 0 (by decide) rfl (hts _ (List.mem_cons_of_mem _ t_373)) (fun _ h9 => h9) 3 rfl dX0_readName_182 ?_
        have go_ := g
        refine g_calli (va_runV (As := []) (rest := [.int 1]) ⟨hx, hb, hml, hown, hts⟩ (r_X8_kind l dC dI L kd tys fr_48 H.size g.2.2.2.1 q0_ mq0_ kq0_) (cwV 0 hts (gV_ t_1186 t_1119 t_1120 t_184 t_1121) rfl rfl rfl (by decide +kernel) ⟨(Nat.le_of_ble_eq_true rfl), (Nat.le_of_ble_eq_true rfl)⟩) (pre3V g hK mq0_ kq0_ (by decide) (q := (RX8, TX8, 10)) rfl) rfl rfl hl.1 rfl (lv_room (Nat.le_of_ble_eq_true rfl)) dX0_readName_185 ⟨(Nat.le_of_ble_eq_true rfl), (Nat.le_of_ble_eq_true rfl)⟩) g hK (by decide) (by decide) (fx' := [(9, 2, q3_, .int x_52), (7, 18, q2_, .int y_41), (8, 6, q0_, .int x_14), (0, 0, a0_, .ref q0_), (0, 1, a0_, .ref q1_), (0, 2, a0_, .ref q2_), (5, 1, q1_, .ref q3_), (8, 8, q0_, .int y0_)]) rfl (fun r_181 fr_181 H locs hp hMr_181 g => ?_)
        have hG_182 := eJx.frame hMr_181 go_.2.2.2.1 ma0_ ka0_ (by decide) (by decide) hG_175
        have hG_183 := cOK.frame hMr_181 go_.2.2.2.1 mq2_ kq2_ (by decide) (by decide) hG_176
        have hG_184 := dOK.frame hMr_181 go_.2.2.2.1 mq2_ kq2_ (by decide) (by decide) hG_177
        have hG_185 := jS.frame hMr_181 go_.2.2.2.1 mq2_ kq2_ (by decide) (by decide) hG_178
        have hG_186 := eOK.frame hMr_181 go_.2.2.2.1 ma0_ ka0_ (by decide) (by decide) hG_179
        refine lv_bipush (v := 91) hx hb dX0_readName_188 (by decide) ?_
        have kb_91 : bd 91 91 (91 : Int32) := ⟨by decide, by decide⟩
        refine lv_icmp_ne (tgt := 197) hx hb dX0_readName_190 (by decide) (fun c_187 => ?_) (fun c_187 => ?_)
        · have fc_187 := neq_f c_187
          refine lv_iconst (v := 0) hx hb dX0_readName_197 (by decide) ?_
          refine lv_icmp_eq (tgt := 213) hx hb dX0_readName_198 (by decide) (fun c_ => absurd c_ (by decide)) (fun c_ => ?_)
          refine lv_aload_n hx hb dX0_readName_201 rfl (lv_at hl 3 rfl) ?_
          refine g_getk (C := RX0) (T := TX0) (N := 14) hx hb hts (mc_ inX0) hown hK g rfl 0 (by decide) rfl (hts _ (List.mem_cons_of_mem _ t_373)) (fun _ h9 => h9) 3 rfl dX0_readName_202 ?_
          refine lv_iconst (v := 5) hx hb dX0_readName_205 (by decide) ?_
          refine lv_iload_n hx hb dX0_readName_206 rfl (lv_at hl 1 rfl) ?_
          have kb_5 : bd 5 5 (5 : Int32) := ⟨by decide, by decide⟩
          have go_ := g
          refine g_callv (va_runV (As := [.int 5, .int r_7]) (rest := []) ⟨hx, hb, hml, hown, hts⟩ (r_X8_fail l dC dI L kd tys fr_181 H.size g.2.2.2.1 q0_ mq0_ kq0_ 5 (bd_sub kb_5 (by decide)) r_7 y0_ by0_ (g.fcts [7] rfl)) (cwV 2 hts (gV_ t_1215 t_1107 t_1108 t_184 t_1109) rfl rfl rfl (by decide +kernel) ⟨(Nat.le_of_ble_eq_true rfl), (Nat.le_of_ble_eq_true rfl)⟩) (pre3V g hK mq0_ kq0_ (by decide) (q := (RX8, TX8, 10)) rfl) rfl rfl hl.1 rfl (lv_room (Nat.le_of_ble_eq_true rfl)) dX0_readName_207 ⟨(Nat.le_of_ble_eq_true rfl), (Nat.le_of_ble_eq_true rfl)⟩) g hK (by decide) (by decide) (fx' := [(9, 2, q3_, .int x_52), (7, 18, q2_, .int y_41), (0, 0, a0_, .ref q0_), (0, 1, a0_, .ref q1_), (0, 2, a0_, .ref q2_), (5, 1, q1_, .ref q3_)]) rfl (fun fr_188 H locs hp hMr_188 g => ?_)
          obtain ⟨x_189, h_190, hF_191⟩ := hp
          have hG_192 := eJx.frame hMr_188 go_.2.2.2.1 ma0_ ka0_ (by decide) (by decide) hG_182
          have hG_193 := cOK.frame hMr_188 go_.2.2.2.1 mq2_ kq2_ (by decide) (by decide) hG_183
          have hG_194 := dOK.frame hMr_188 go_.2.2.2.1 mq2_ kq2_ (by decide) (by decide) hG_184
          have hG_195 := jS.frame hMr_188 go_.2.2.2.1 mq2_ kq2_ (by decide) (by decide) hG_185
          have hG_196 := eOK.frame hMr_188 go_.2.2.2.1 ma0_ ka0_ (by decide) (by decide) hG_186
          have g := g.more hF_191
          refine lv_goto (tgt := 292) hx hb dX0_readName_210 (by decide) ?_
          have kb_1201 : bd 1201 1201 (1201 : Int32) := ⟨by decide, by decide⟩
          subst hQ
          exact W.vret hx hb hr (fun t ht hW => ⟨⟨_, rfl, Or.inr (⟨hG_194, hG_196, 1201, kb_1201, x_189, h_190, (g.fcts [0, 1] rfl)⟩), q3_of g hK ht hW⟩, g.2.2.1.F ht⟩) g.2.2.1.2.2 dX0_readName_292
        · have fc_187 := eq_f c_187
          have b_197 : bd 91 91 r_181 := eqX fc_187 (bdT r_181) kb_91 (by decide)
          refine lv_iconst (v := 1) hx hb dX0_readName_193 (by decide) ?_
          refine lv_goto (tgt := 198) hx hb dX0_readName_194 (by decide) ?_
          refine lv_icmp_eq (tgt := 213) hx hb dX0_readName_198 (by decide) (fun c_ => ?_) (fun c_ => absurd (by decide) c_)
          refine lv_aload_n hx hb dX0_readName_213 rfl (lv_at hl 3 rfl) ?_
          refine g_getk (C := RX0) (T := TX0) (N := 14) hx hb hts (mc_ inX0) hown hK g rfl 1 (by decide) rfl (hts _ (List.mem_cons_of_mem _ t_374)) (fun _ h9 => h9) 4 rfl dX0_readName_214 ?_
          refine g_getk (C := RX5) (T := TX5) (N := 9) hx hb hts (mc_ inX5) hown hK g rfl 1 (by decide) rfl (hts _ (List.mem_cons_of_mem _ t_332)) (fun _ h9 => h9) 6 rfl dX0_readName_217 ?_
          refine lv_iload hx hb dX0_readName_220 (lv_at hl 0 rfl) ?_
          have go_ := g
          refine g_calli (va_runV (As := [.int r_31]) (rest := []) ⟨hx, hb, hml, hown, hts⟩ (r_X9_isRow l dC dI L kd tys fr_181 H.size g.2.2.2.1 q3_ mq3_ kq3_ r_31) (cwV 1 hts (gV_ t_1256 t_1257 t_1258 t_192 t_1259) rfl rfl rfl (by decide +kernel) ⟨(Nat.le_of_ble_eq_true rfl), (Nat.le_of_ble_eq_true rfl)⟩) (pre3V g hK mq3_ kq3_ (by decide) (q := (RX9, TX9, 13)) rfl) rfl rfl hl.1 rfl (lv_room (Nat.le_of_ble_eq_true rfl)) dX0_readName_222 ⟨(Nat.le_of_ble_eq_true rfl), (Nat.le_of_ble_eq_true rfl)⟩) g hK (by decide) (by decide) (fx' := [(9, 2, q3_, .int x_52), (7, 18, q2_, .int y_41), (8, 6, q0_, .int x_14), (0, 0, a0_, .ref q0_), (0, 1, a0_, .ref q1_), (0, 2, a0_, .ref q2_), (5, 1, q1_, .ref q3_), (8, 8, q0_, .int y0_)]) rfl (fun r_198 fr_198 H locs hp hMr_198 g => ?_)
          rcases hp with ⟨h_199, -⟩ | ⟨h_200, h_201, x_202, h_203, hF_204⟩
          · have hG_205 := eJx.frame hMr_198 go_.2.2.2.1 ma0_ ka0_ (by decide) (by decide) hG_182
            have hG_206 := cOK.frame hMr_198 go_.2.2.2.1 mq2_ kq2_ (by decide) (by decide) hG_183
            have hG_207 := dOK.frame hMr_198 go_.2.2.2.1 mq2_ kq2_ (by decide) (by decide) hG_184
            have hG_208 := jS.frame hMr_198 go_.2.2.2.1 mq2_ kq2_ (by decide) (by decide) hG_185
            have hG_209 := eOK.frame hMr_198 go_.2.2.2.1 ma0_ ka0_ (by decide) (by decide) hG_186
            obtain rfl : r_198 = 0 := h_199
            refine lv_if_eq (tgt := 239) hx hb dX0_readName_225 (by decide) (fun c_ => ?_) (fun c_ => absurd (by decide) c_)
            refine lv_iload hx hb dX0_readName_239 (lv_at hl 0 rfl) ?_
            refine lv_bipush (v := 16) hx hb dX0_readName_241 (by decide) ?_
            have kb_16 : bd 16 16 (16 : Int32) := ⟨by decide, by decide⟩
            refine lv_icmp_lt (tgt := 267) hx hb dX0_readName_243 (by decide) (fun c_210 => ?_) (fun c_210 => ?_)
            · have fc_210 := lt_f c_210
              refine lv_aload_n hx hb dX0_readName_267 rfl (lv_at hl 3 rfl) ?_
              refine g_getk (C := RX0) (T := TX0) (N := 14) hx hb hts (mc_ inX0) hown hK g rfl 2 (by decide) rfl (hts _ (List.mem_cons_of_mem _ t_375)) (fun _ h9 => h9) 5 rfl dX0_readName_268 ?_
              refine lv_iconst (v := 3) hx hb dX0_readName_271 (by decide) ?_
              refine lv_aload_n hx hb dX0_readName_272 rfl (lv_at hl 3 rfl) ?_
              refine g_getk (C := RX0) (T := TX0) (N := 14) hx hb hts (mc_ inX0) hown hK g rfl 1 (by decide) rfl (hts _ (List.mem_cons_of_mem _ t_374)) (fun _ h9 => h9) 4 rfl dX0_readName_273 ?_
              refine g_getk (C := RX5) (T := TX5) (N := 9) hx hb hts (mc_ inX5) hown hK g rfl 1 (by decide) rfl (hts _ (List.mem_cons_of_mem _ t_332)) (fun _ h9 => h9) 6 rfl dX0_readName_276 ?_
              refine lv_iload hx hb dX0_readName_279 (lv_at hl 0 rfl) ?_
              have go_ := g
              refine g_calli (va_runV (As := [.int r_31]) (rest := [.int 3, .ref q2_]) ⟨hx, hb, hml, hown, hts⟩ (r_X9_spanOf l dC dI L kd tys fr_198 H.size g.2.2.2.1 q3_ mq3_ kq3_ r_31) (cwV 1 hts (gV_ t_1264 t_1265 t_1266 t_192 t_1267) rfl rfl rfl (by decide +kernel) ⟨(Nat.le_of_ble_eq_true rfl), (Nat.le_of_ble_eq_true rfl)⟩) (pre3V g hK mq3_ kq3_ (by decide) (q := (RX9, TX9, 13)) rfl) rfl rfl hl.1 rfl (lv_room (Nat.le_of_ble_eq_true rfl)) dX0_readName_281 ⟨(Nat.le_of_ble_eq_true rfl), (Nat.le_of_ble_eq_true rfl)⟩) g hK (by decide) (by decide) (fx' := [(9, 2, q3_, .int x_52), (7, 18, q2_, .int y_41), (8, 6, q0_, .int x_14), (0, 0, a0_, .ref q0_), (0, 1, a0_, .ref q1_), (0, 2, a0_, .ref q2_), (5, 1, q1_, .ref q3_), (8, 8, q0_, .int y0_)]) rfl (fun r_211 fr_211 H locs hp hMr_211 g => ?_)
              obtain ⟨h_212, -⟩ := hp
              have hG_213 := eJx.frame hMr_211 go_.2.2.2.1 ma0_ ka0_ (by decide) (by decide) hG_205
              have hG_214 := cOK.frame hMr_211 go_.2.2.2.1 mq2_ kq2_ (by decide) (by decide) hG_206
              have hG_215 := dOK.frame hMr_211 go_.2.2.2.1 mq2_ kq2_ (by decide) (by decide) hG_207
              have hG_216 := jS.frame hMr_211 go_.2.2.2.1 mq2_ kq2_ (by decide) (by decide) hG_208
              have hG_217 := eOK.frame hMr_211 go_.2.2.2.1 ma0_ ka0_ (by decide) (by decide) hG_209
              obtain ⟨a_218, ma_218, ka_218, g⟩ := g_factr g mq2_ kq2_ (by decide) 4 rfl
              obtain ⟨a_219, ma_219, ka_219, g⟩ := g_factr g mq2_ kq2_ (by decide) 5 rfl
              obtain ⟨x_220, bx_220, g⟩ := g_facti g mq2_ kq2_ (by decide) 6 rfl
              have kb_3 : bd 3 3 (3 : Int32) := ⟨by decide, by decide⟩
              have go_ := g
              refine g_callv (va_runV (As := [.int 3, .int r_211]) (rest := []) ⟨hx, hb, hml, hown, hts⟩ (r_X7_emitN l dC dI L kd tys fr_211 H.size g.2.2.2.1 q2_ mq2_ kq2_ a_218 ma_218 ka_218 a_219 ma_219 ka_219 x_220 bx_220 T_ hG_215 (3 : Int32) r_211 (fun j9 => jOK fr_211 q2_ j9) hG_214 (fun _ h9 => h9) ⟨(fun h9 => ⟨(by have h9_0 := b_197; unfold bd at h9_0; have h9_1 := h_212; unfold bd at h9_1; have h9_2 := b_30; unfold bd at h9_2; have h9_3 := b_180; unfold bd at h9_3; have h9_4 := h_15; unfold bd at h9_4; have h9_5 := bx_220; unfold bd at h9_5; have h9_6 := h_53; unfold bd at h9_6; have h9_7 := by0_; unfold bd at h9_7; have h8_0 := kb_0; unfold bd at h8_0; have h8_1 := kb_1; unfold bd at h8_1; have h8_2 := kb_16; unfold bd at h8_2; have h8_3 := kb_3; unfold bd at h8_3; have h8_4 := kb_91; unfold bd at h8_4; have h8_5 := kb_m1; unfold bd at h8_5; omega), (by have h9_0 := b_197; unfold bd at h9_0; have h9_1 := h_212; unfold bd at h9_1; have h9_2 := b_30; unfold bd at h9_2; have h9_3 := b_180; unfold bd at h9_3; have h9_4 := h_15; unfold bd at h9_4; have h9_5 := bx_220; unfold bd at h9_5; have h9_6 := h_53; unfold bd at h9_6; have h9_7 := by0_; unfold bd at h9_7; have h8_0 := kb_0; unfold bd at h8_0; have h8_1 := kb_1; unfold bd at h8_1; have h8_2 := kb_16; unfold bd at h8_2; have h8_3 := kb_3; unfold bd at h8_3; have h8_4 := kb_91; unfold bd at h8_4; have h8_5 := kb_m1; unfold bd at h8_5; omega)⟩), (fun h9 => ⟨(by have h9_0 := b_197; unfold bd at h9_0; have h9_1 := h_212; unfold bd at h9_1; have h9_2 := b_30; unfold bd at h9_2; have h9_3 := b_180; unfold bd at h9_3; have h9_4 := h_15; unfold bd at h9_4; have h9_5 := bx_220; unfold bd at h9_5; have h9_6 := h_53; unfold bd at h9_6; have h9_7 := by0_; unfold bd at h9_7; have h8_0 := kb_0; unfold bd at h8_0; have h8_1 := kb_1; unfold bd at h8_1; have h8_2 := kb_16; unfold bd at h8_2; have h8_3 := kb_3; unfold bd at h8_3; have h8_4 := kb_91; unfold bd at h8_4; have h8_5 := kb_m1; unfold bd at h8_5; omega), (by have h9_0 := b_197; unfold bd at h9_0; have h9_1 := h_212; unfold bd at h9_1; have h9_2 := b_30; unfold bd at h9_2; have h9_3 := b_180; unfold bd at h9_3; have h9_4 := h_15; unfold bd at h9_4; have h9_5 := bx_220; unfold bd at h9_5; have h9_6 := h_53; unfold bd at h9_6; have h9_7 := by0_; unfold bd at h9_7; have h8_0 := kb_0; unfold bd at h8_0; have h8_1 := kb_1; unfold bd at h8_1; have h8_2 := kb_16; unfold bd at h8_2; have h8_3 := kb_3; unfold bd at h8_3; have h8_4 := kb_91; unfold bd at h8_4; have h8_5 := kb_m1; unfold bd at h8_5; omega)⟩), (fun h9 => ⟨(by have h9_0 := b_197; unfold bd at h9_0; have h9_1 := h_212; unfold bd at h9_1; have h9_2 := b_30; unfold bd at h9_2; have h9_3 := b_180; unfold bd at h9_3; have h9_4 := h_15; unfold bd at h9_4; have h9_5 := bx_220; unfold bd at h9_5; have h9_6 := h_53; unfold bd at h9_6; have h9_7 := by0_; unfold bd at h9_7; have h8_0 := kb_0; unfold bd at h8_0; have h8_1 := kb_1; unfold bd at h8_1; have h8_2 := kb_16; unfold bd at h8_2; have h8_3 := kb_3; unfold bd at h8_3; have h8_4 := kb_91; unfold bd at h8_4; have h8_5 := kb_m1; unfold bd at h8_5; omega), (by have h9_0 := b_197; unfold bd at h9_0; have h9_1 := h_212; unfold bd at h9_1; have h9_2 := b_30; unfold bd at h9_2; have h9_3 := b_180; unfold bd at h9_3; have h9_4 := h_15; unfold bd at h9_4; have h9_5 := bx_220; unfold bd at h9_5; have h9_6 := h_53; unfold bd at h9_6; have h9_7 := by0_; unfold bd at h9_7; have h8_0 := kb_0; unfold bd at h8_0; have h8_1 := kb_1; unfold bd at h8_1; have h8_2 := kb_16; unfold bd at h8_2; have h8_3 := kb_3; unfold bd at h8_3; have h8_4 := kb_91; unfold bd at h8_4; have h8_5 := kb_m1; unfold bd at h8_5; omega)⟩)⟩ (g.fcts [2, 1, 0] rfl)) (cwV 2 hts (gV_ t_1203 t_1204 t_1205 t_191 t_1206) rfl rfl rfl (by decide +kernel) ⟨(Nat.le_of_ble_eq_true rfl), (Nat.le_of_ble_eq_true rfl)⟩) (pre3V g hK mq2_ kq2_ (by decide) (q := (RX7, TX7, 19)) rfl) rfl rfl hl.1 rfl (lv_room (Nat.le_of_ble_eq_true rfl)) dX0_readName_284 ⟨(Nat.le_of_ble_eq_true rfl), (Nat.le_of_ble_eq_true rfl)⟩) g hK (by decide) (by decide) (fx' := [(7, 5, q2_, .ref a_219), (7, 4, q2_, .ref a_218), (9, 2, q3_, .int x_52), (7, 18, q2_, .int y_41), (8, 6, q0_, .int x_14), (0, 0, a0_, .ref q0_), (0, 1, a0_, .ref q1_), (0, 2, a0_, .ref q2_), (5, 1, q1_, .ref q3_), (8, 8, q0_, .int y0_)]) rfl (fun fr_221 H locs hp hMr_221 g => ?_)
              obtain ⟨hG_222, hG_223, hG_224, hx_225, x_226, h_227, hF_228⟩ := hp
              have hG_229 := eOK.frame hMr_221 go_.2.2.2.1 ma0_ ka0_ (by decide) (by decide) hG_217
              have g := g.more hF_228
              have hs_230 := jS.mv hG_216 hG_224
              have hG_231 := eJx.mv hG_213 hMr_221 go_.2.2.2.1 ma0_ ka0_ (by decide) (by decide) (((hMr_221 a0_ ma0_).1 2 (by rw [ka0_]; decide) (by rw [ka0_]; decide)).symm.trans (fx_at g (i := 8) rfl).2.2.2) hG_224
              refine lv_aload_n hx hb dX0_readName_287 rfl (lv_at hl 3 rfl) ?_
              refine lv_iconst (v := 1) hx hb dX0_readName_288 (by decide) ?_
              have go_ := g
              refine g_callv (va_runV (As := [.int 1]) (rest := []) ⟨hx, hb, hml, hown, hts⟩ (r_X0_addWhole l dC dI L kd tys fr_221 H.size g.2.2.2.1 a0_ ma0_ ka0_ 1) (cwV 1 hts (gV_ t_1211 t_1213 t_17 t_190 t_1214) rfl rfl rfl (by decide +kernel) ⟨(Nat.le_of_ble_eq_true rfl), (Nat.le_of_ble_eq_true rfl)⟩) (pre3V g hK ma0_ ka0_ (by decide) (q := (RX0, TX0, 14)) rfl) rfl rfl hl.1 rfl (lv_room (Nat.le_of_ble_eq_true rfl)) dX0_readName_289 ⟨(Nat.le_of_ble_eq_true rfl), (Nat.le_of_ble_eq_true rfl)⟩) g hK (by decide) (by decide) (fx' := [(7, 6, q2_, .int x_226), (7, 5, q2_, .ref a_219), (7, 4, q2_, .ref a_218), (9, 2, q3_, .int x_52), (7, 18, q2_, .int y_41), (8, 6, q0_, .int x_14), (0, 0, a0_, .ref q0_), (0, 1, a0_, .ref q1_), (0, 2, a0_, .ref q2_), (5, 1, q1_, .ref q3_), (8, 8, q0_, .int y0_)]) rfl (fun fr_232 H locs hp hMr_232 g => ?_)
              obtain ⟨x_233, h_234, hF_235⟩ := hp
              have hG_236 := cOK.frame hMr_232 go_.2.2.2.1 mq2_ kq2_ (by decide) (by decide) hG_223
              have hG_237 := dOK.frame hMr_232 go_.2.2.2.1 mq2_ kq2_ (by decide) (by decide) hG_222
              have hG_238 := jS.frame hMr_232 go_.2.2.2.1 mq2_ kq2_ (by decide) (by decide) hs_230
              have hG_239 := eOK.frame hMr_232 go_.2.2.2.1 ma0_ ka0_ (by decide) (by decide) hG_229
              have hG_240 := eJx.frame hMr_232 go_.2.2.2.1 ma0_ ka0_ (by decide) (by decide) hG_231
              have g := g.more hF_235
              subst hQ
              exact W.vret hx hb hr (fun t ht hW => ⟨⟨_, rfl, Or.inl ⟨hG_240, hG_236, hG_237, hG_238, hG_239, x_14, h_15, (g.fcts [7, 12] rfl)⟩, q3_of g hK ht hW⟩, g.2.2.1.F ht⟩) g.2.2.1.2.2 dX0_readName_292
            · have fc_210 := nlt_f c_210
              have b_241 : bd 16 9 (16 : Int32) := leL fc_210 kb_16 b_180 (by decide)
              exact bd_no (eqX rfl b_241 kb_16 (lo := 16) (hi := 9) (by decide)) (by decide)
          · have hG_242 := eJx.frame hMr_198 go_.2.2.2.1 ma0_ ka0_ (by decide) (by decide) hG_182
            have hG_243 := cOK.frame hMr_198 go_.2.2.2.1 mq2_ kq2_ (by decide) (by decide) hG_183
            have hG_244 := dOK.frame hMr_198 go_.2.2.2.1 mq2_ kq2_ (by decide) (by decide) hG_184
            have hG_245 := jS.frame hMr_198 go_.2.2.2.1 mq2_ kq2_ (by decide) (by decide) hG_185
            have hG_246 := eOK.frame hMr_198 go_.2.2.2.1 ma0_ ka0_ (by decide) (by decide) hG_186
            obtain rfl : r_198 = 1 := h_200
            have g := g.more hF_204
            have e_247 := fx_same g 1 0 rfl rfl
            have g := g.sub (fx' := [(9, 2, q3_, .int x_52), (7, 18, q2_, .int y_41), (8, 6, q0_, .int x_14), (0, 0, a0_, .ref q0_), (0, 1, a0_, .ref q1_), (0, 2, a0_, .ref q2_), (5, 1, q1_, .ref q3_), (8, 8, q0_, .int y0_)]) [1, 2, 3, 4, 5, 6, 7, 8] rfl
            refine lv_if_eq (tgt := 239) hx hb dX0_readName_225 (by decide) (fun c_ => absurd c_ (by decide)) (fun c_ => ?_)
            refine lv_aload_n hx hb dX0_readName_228 rfl (lv_at hl 3 rfl) ?_
            refine lv_iconst (v := 4) hx hb dX0_readName_229 (by decide) ?_
            refine lv_iload_n hx hb dX0_readName_230 rfl (lv_at hl 1 rfl) ?_
            refine lv_iload hx hb dX0_readName_231 (lv_at hl 0 rfl) ?_
            have kb_4 : bd 4 4 (4 : Int32) := ⟨by decide, by decide⟩
            have go_ := g
            refine g_callv (va_runV (As := [.int 4, .int r_7, .int r_31]) (rest := []) ⟨hx, hb, hml, hown, hts⟩ (r_X0_openIndex_3 l dC dI L kd tys fr_198 H.size g.2.2.2.1 a0_ ma0_ ka0_ 4 kb_4 r_7 r_31 b_180 q0_ mq0_ kq0_ q1_ mq1_ kq1_ q2_ mq2_ kq2_ q3_ mq3_ kq3_ x_52 h_53 y0_ by0_ hG_242 hG_246 (g.fcts [3, 4, 5, 6, 0, 7] rfl)) (cwV 3 hts (gV_ t_1260 t_1262 t_24 t_190 t_1263) rfl rfl rfl (by decide +kernel) ⟨(Nat.le_of_ble_eq_true rfl), (Nat.le_of_ble_eq_true rfl)⟩) (pre3V g hK ma0_ ka0_ (by decide) (q := (RX0, TX0, 14)) rfl) rfl rfl hl.1 rfl (lv_room (Nat.le_of_ble_eq_true rfl)) dX0_readName_233 ⟨(Nat.le_of_ble_eq_true rfl), (Nat.le_of_ble_eq_true rfl)⟩) g hK (by decide) (by decide) (fx' := [(9, 2, q3_, .int x_52), (7, 18, q2_, .int y_41), (0, 0, a0_, .ref q0_), (0, 1, a0_, .ref q1_), (0, 2, a0_, .ref q2_), (5, 1, q1_, .ref q3_)]) rfl (fun fr_248 H locs hp hMr_248 g => ?_)
            rcases hp with ⟨hG_249, hG_250, x_251, h_252, x_253, h_254, x_255, h_256, hF_257⟩ | ⟨hG_258, x_259, h_260, x_261, h_262, hF_263⟩
            · have hG_264 := cOK.frame hMr_248 go_.2.2.2.1 mq2_ kq2_ (by decide) (by decide) hG_243
              have hG_265 := dOK.frame hMr_248 go_.2.2.2.1 mq2_ kq2_ (by decide) (by decide) hG_244
              have hG_266 := jS.frame hMr_248 go_.2.2.2.1 mq2_ kq2_ (by decide) (by decide) hG_245
              have g := g.more hF_257
              refine lv_goto (tgt := 292) hx hb dX0_readName_236 (by decide) ?_
              subst hQ
              exact W.vret hx hb hr (fun t ht hW => ⟨⟨_, rfl, Or.inl ⟨hG_249, hG_264, hG_265, hG_266, hG_250, x_251, h_252, (g.fcts [0, 3] rfl)⟩, q3_of g hK ht hW⟩, g.2.2.1.F ht⟩) g.2.2.1.2.2 dX0_readName_292
            · have hG_267 := cOK.frame hMr_248 go_.2.2.2.1 mq2_ kq2_ (by decide) (by decide) hG_243
              have hG_268 := dOK.frame hMr_248 go_.2.2.2.1 mq2_ kq2_ (by decide) (by decide) hG_244
              have hG_269 := jS.frame hMr_248 go_.2.2.2.1 mq2_ kq2_ (by decide) (by decide) hG_245
              have g := g.more hF_263
              refine lv_goto (tgt := 292) hx hb dX0_readName_236 (by decide) ?_
              have kb_1201 : bd 1201 1201 (1201 : Int32) := ⟨by decide, by decide⟩
              subst hQ
              exact W.vret hx hb hr (fun t ht hW => ⟨⟨_, rfl, Or.inr (⟨hG_268, hG_258, 1201, kb_1201, x_261, h_262, (g.fcts [1, 2] rfl)⟩), q3_of g hK ht hW⟩, g.2.2.1.F ht⟩) g.2.2.1.2.2 dX0_readName_292
    · have fc_38 := eq_f c_38
      have b_270 : bd (-1) (-1) r_31 := eqX fc_38 h_32 kb_m1 (by decide)
      refine lv_aload_n hx hb dX0_readName_146 rfl (lv_at hl 3 rfl) ?_
      refine g_getk (C := RX0) (T := TX0) (N := 14) hx hb hts (mc_ inX0) hown hK g rfl 0 (by decide) rfl (hts _ (List.mem_cons_of_mem _ t_373)) (fun _ h9 => h9) 1 rfl dX0_readName_147 ?_
      refine lv_iconst (v := 2) hx hb dX0_readName_150 (by decide) ?_
      refine lv_iload_n hx hb dX0_readName_151 rfl (lv_at hl 1 rfl) ?_
      have kb_2 : bd 2 2 (2 : Int32) := ⟨by decide, by decide⟩
      have go_ := g
      refine g_callv (va_runV (As := [.int 2, .int r_7]) (rest := []) ⟨hx, hb, hml, hown, hts⟩ (r_X8_fail l dC dI L kd tys fr_31 H.size g.2.2.2.1 q0_ mq0_ kq0_ 2 (bd_sub kb_2 (by decide)) r_7 y0_ by0_ (g.fcts [5] rfl)) (cwV 2 hts (gV_ t_1215 t_1107 t_1108 t_184 t_1109) rfl rfl rfl (by decide +kernel) ⟨(Nat.le_of_ble_eq_true rfl), (Nat.le_of_ble_eq_true rfl)⟩) (pre3V g hK mq0_ kq0_ (by decide) (q := (RX8, TX8, 10)) rfl) rfl rfl hl.1 rfl (lv_room (Nat.le_of_ble_eq_true rfl)) dX0_readName_152 ⟨(Nat.le_of_ble_eq_true rfl), (Nat.le_of_ble_eq_true rfl)⟩) g hK (by decide) (by decide) (fx' := [(0, 0, a0_, .ref q0_), (0, 1, a0_, .ref q1_), (0, 2, a0_, .ref q2_), (5, 1, q1_, .ref q3_)]) rfl (fun fr_271 H locs hp hMr_271 g => ?_)
      obtain ⟨x_272, h_273, hF_274⟩ := hp
      have hG_275 := eJx.frame hMr_271 go_.2.2.2.1 ma0_ ka0_ (by decide) (by decide) hG_33
      have hG_276 := cOK.frame hMr_271 go_.2.2.2.1 mq2_ kq2_ (by decide) (by decide) hG_34
      have hG_277 := dOK.frame hMr_271 go_.2.2.2.1 mq2_ kq2_ (by decide) (by decide) hG_35
      have hG_278 := jS.frame hMr_271 go_.2.2.2.1 mq2_ kq2_ (by decide) (by decide) hG_36
      have hG_279 := eOK.frame hMr_271 go_.2.2.2.1 ma0_ ka0_ (by decide) (by decide) hG_37
      have g := g.more hF_274
      have kb_1201 : bd 1201 1201 (1201 : Int32) := ⟨by decide, by decide⟩
      subst hQ
      exact W.vret hx hb hr (fun t ht hW => ⟨⟨_, rfl, Or.inr (⟨hG_277, hG_279, 1201, kb_1201, x_272, h_273, (g.fcts [0, 1] rfl)⟩), q3_of g hK ht hW⟩, g.2.2.1.F ht⟩) g.2.2.1.2.2 dX0_readName_155
  · have fc_29 := neq_f c_29
    have b_280 : bd 1 1 r_22 := neX fc_29 h_23 kb_0 (by decide)
    refine lv_aload_n hx hb dX0_readName_33 rfl (lv_at hl 2 rfl) ?_
    refine g_getk (C := RX0) (T := TX0) (N := 14) hx hb hts (mc_ inX0) hown hK g rfl 2 (by decide) rfl (hts _ (List.mem_cons_of_mem _ t_375)) (fun _ h9 => h9) 3 rfl dX0_readName_34 ?_
    refine lv_aload_n hx hb dX0_readName_37 rfl (lv_at hl 2 rfl) ?_
    refine g_getk (C := RX0) (T := TX0) (N := 14) hx hb hts (mc_ inX0) hown hK g rfl 1 (by decide) rfl (hts _ (List.mem_cons_of_mem _ t_374)) (fun _ h9 => h9) 2 rfl dX0_readName_38 ?_
    refine g_getk (C := RX5) (T := TX5) (N := 9) hx hb hts (mc_ inX5) hown hK g rfl 1 (by decide) rfl (hts _ (List.mem_cons_of_mem _ t_332)) (fun _ h9 => h9) 4 rfl dX0_readName_41 ?_
    refine lv_lload_n hx hb dX0_readName_44 rfl (lv_at hl 1 rfl) ?_
    have go_ := g
    refine g_calli (va_runV (As := [.ref q3_, .long r_1]) (rest := []) ⟨hx, hb, hml, hown, hts⟩ (r_X7_memberNamed l dC dI L kd tys fr_22 H.size g.2.2.2.1 q2_ mq2_ kq2_ q3_ mq3_ kq3_ r_1) (cwV 2 hts (gV_ t_1243 t_1244 t_1245 t_191 t_1246) rfl rfl rfl (by decide +kernel) ⟨(Nat.le_of_ble_eq_true rfl), (Nat.le_of_ble_eq_true rfl)⟩) (pre3V g hK mq2_ kq2_ (by decide) (q := (RX7, TX7, 19)) rfl) rfl rfl hl.1 rfl (lv_room (Nat.le_of_ble_eq_true rfl)) dX0_readName_45 ⟨(Nat.le_of_ble_eq_true rfl), (Nat.le_of_ble_eq_true rfl)⟩) g hK (by decide) (by decide) (fx' := [(8, 6, q0_, .int x_14), (0, 0, a0_, .ref q0_), (0, 1, a0_, .ref q1_), (0, 2, a0_, .ref q2_), (5, 1, q1_, .ref q3_), (8, 8, q0_, .int y0_)]) rfl (fun r_281 fr_281 H locs hp hMr_281 g => ?_)
    obtain ⟨h_282, -⟩ := hp
    have hG_283 := eJx.frame hMr_281 go_.2.2.2.1 ma0_ ka0_ (by decide) (by decide) hG_24
    have hG_284 := cOK.frame hMr_281 go_.2.2.2.1 mq2_ kq2_ (by decide) (by decide) hG_25
    have hG_285 := dOK.frame hMr_281 go_.2.2.2.1 mq2_ kq2_ (by decide) (by decide) hG_26
    have hG_286 := jS.frame hMr_281 go_.2.2.2.1 mq2_ kq2_ (by decide) (by decide) hG_27
    have hG_287 := eOK.frame hMr_281 go_.2.2.2.1 ma0_ ka0_ (by decide) (by decide) hG_28
    refine lv_istore (lv' := [(4, .int r_281), (3, .int r_7), (1, .long r_1), (0, .ref a0_)]) hx hb dX0_readName_48 hl (by decide) rfl (fun ls hl => ?_)
    refine lv_iload hx hb dX0_readName_50 (lv_at hl 0 rfl) ?_
    refine lv_iconst (v := (-1)) hx hb dX0_readName_52 (by decide) ?_
    have kb_m1 : bd (-1) (-1) ((-1) : Int32) := ⟨by decide, by decide⟩
    refine lv_icmp_ne (tgt := 66) hx hb dX0_readName_53 (by decide) (fun c_288 => ?_) (fun c_288 => ?_)
    · have fc_288 := neq_f c_288
      have b_289 : bd 0 11 r_281 := neX fc_288 h_282 kb_m1 (by decide)
      refine lv_aload_n hx hb dX0_readName_66 rfl (lv_at hl 3 rfl) ?_
      refine g_getk (C := RX0) (T := TX0) (N := 14) hx hb hts (mc_ inX0) hown hK g rfl 2 (by decide) rfl (hts _ (List.mem_cons_of_mem _ t_375)) (fun _ h9 => h9) 3 rfl dX0_readName_67 ?_
      refine g_getr (K := 137) (C := RX7) (T := TX7) (N := 19) hx hb hts (mc_ inX7) hown hK g mq2_ kq2_ (by decide) rfl 2 (by decide) rfl (hts _ (List.mem_cons_of_mem _ t_633)) (fun _ h9 => h9) rfl dX0_readName_70 (fun a_290 ma_290 ka_290 g => ?_)
      refine lv_aload_n hx hb dX0_readName_73 rfl (lv_at hl 3 rfl) ?_
      refine g_getk (C := RX0) (T := TX0) (N := 14) hx hb hts (mc_ inX0) hown hK g rfl 1 (by decide) rfl (hts _ (List.mem_cons_of_mem _ t_374)) (fun _ h9 => h9) 3 rfl dX0_readName_74 ?_
      refine g_getk (C := RX5) (T := TX5) (N := 9) hx hb hts (mc_ inX5) hown hK g rfl 1 (by decide) rfl (hts _ (List.mem_cons_of_mem _ t_332)) (fun _ h9 => h9) 5 rfl dX0_readName_77 ?_
      refine g_getr (K := 156) (C := RX9) (T := TX9) (N := 13) hx hb hts (mc_ inX9) hown hK g mq3_ kq3_ (by decide) rfl 9 (by decide) rfl (hts _ (List.mem_cons_of_mem _ t_508)) (fun _ h9 => h9) rfl dX0_readName_80 (fun a_291 ma_291 ka_291 g => ?_)
      refine lv_iload hx hb dX0_readName_83 (lv_at hl 0 rfl) ?_
      refine g_iald hx hb hK g ma_291 ka_291 (by decide) rfl (in_bd b_289 (by decide)) dX0_readName_85 (fun x_292 bx_292 cx_292 => ?_)
      refine g_aald hx hb hK g ma_290 ka_290 (by decide) rfl (by decide) (in_bd bx_292 (by decide)) dX0_readName_86 (fun a_293 ma_293 ua_293 wa_293 => ?_)
      have ka_293 : kd a_293 = 6 := by omega
      refine lv_astore (lv' := [(5, .ref a_293), (4, .int r_281), (3, .int r_7), (1, .long r_1), (0, .ref a0_)]) hx hb dX0_readName_87 hl (by decide) rfl (fun ls hl => ?_)
      refine lv_aload_n hx hb dX0_readName_89 rfl (lv_at hl 4 rfl) ?_
      refine g_getk (C := RX0) (T := TX0) (N := 14) hx hb hts (mc_ inX0) hown hK g rfl 1 (by decide) rfl (hts _ (List.mem_cons_of_mem _ t_374)) (fun _ h9 => h9) 4 rfl dX0_readName_90 ?_
      refine g_geti (C := RX5) (T := TX5) (N := 9) hx hb hts (mc_ inX5) hown hK g mq1_ kq1_ (by decide) rfl 7 (by decide) rfl (hts _ (List.mem_cons_of_mem _ t_343)) (fun _ h9 => h9) rfl dX0_readName_93 (fun x_294 bx_294 g => ?_)
      refine lv_if_eq (tgt := 116) hx hb dX0_readName_96 (by decide) (fun c_295 => ?_) (fun c_295 => ?_)
      · have fc_295 := eq_f c_295
        have b_296 : bd 0 0 x_294 := eqX fc_295 bx_294 kb_0 (by decide)
        refine lv_aload_n hx hb dX0_readName_116 rfl (lv_at hl 4 rfl) ?_
        refine lv_iconst (v := 2) hx hb dX0_readName_117 (by decide) ?_
        refine lv_iload_n hx hb dX0_readName_118 rfl (lv_at hl 2 rfl) ?_
        refine lv_iload hx hb dX0_readName_119 (lv_at hl 1 rfl) ?_
        refine lv_aload hx hb dX0_readName_121 (lv_at hl 0 rfl) ?_
        refine g_geti (C := RX6) (T := TX6) (N := 13) hx hb hts (mc_ inX6) hown hK g ma_293 ka_293 (by decide) rfl 3 (by decide) rfl (hts _ (List.mem_cons_of_mem _ t_564)) (fun _ h9 => h9) rfl dX0_readName_123 (fun x_297 bx_297 g => ?_)
        have kb_2 : bd 2 2 (2 : Int32) := ⟨by decide, by decide⟩
        have go_ := g
        refine g_callv (va_runV (As := [.int 2, .int r_7, .int r_281, .int x_297]) (rest := []) ⟨hx, hb, hml, hown, hts⟩ (r_X0_openCall_5 l dC dI L kd tys fr_281 H.size g.2.2.2.1 a0_ ma0_ ka0_ 2 kb_2 r_7 r_281 b_289 x_297 q0_ mq0_ kq0_ q2_ mq2_ kq2_ y0_ by0_ T_ (fun j9 => jOK fr_281 q2_ j9) hG_283 hG_284 hG_285 (fun _ h9 => h9) hG_287 (g.fcts [5, 7, 9] rfl)) (cwV 4 hts (gV_ t_1247 t_1249 t_23 t_190 t_1250) rfl rfl rfl (by decide +kernel) ⟨(Nat.le_of_ble_eq_true rfl), (Nat.le_of_ble_eq_true rfl)⟩) (pre3V g hK ma0_ ka0_ (by decide) (q := (RX0, TX0, 14)) rfl) rfl rfl hl.1 rfl (lv_room (Nat.le_of_ble_eq_true rfl)) dX0_readName_126 ⟨(Nat.le_of_ble_eq_true rfl), (Nat.le_of_ble_eq_true rfl)⟩) g hK (by decide) (by decide) (fx' := [(6, 3, a_293, .int x_297), (5, 7, q1_, .int x_294), (9, 9, q3_, .ref a_291), (7, 2, q2_, .ref a_290), (0, 0, a0_, .ref q0_), (0, 1, a0_, .ref q1_), (0, 2, a0_, .ref q2_), (5, 1, q1_, .ref q3_)]) rfl (fun fr_298 H locs hp hMr_298 g => ?_)
        rcases hp with ⟨hG_299, hG_300, hG_301, hG_302, hG_303, x_304, h_305, x_306, h_307, hF_308⟩ | ⟨hG_309, hG_310, x_311, h_312, hF_313⟩
        · have g := g.more hF_308
          have hs_314 := jS.mv hG_286 hG_302
          subst hQ
          exact W.vret hx hb hr (fun t ht hW => ⟨⟨_, rfl, Or.inl ⟨hG_299, hG_300, hG_301, hs_314, hG_303, x_306, h_307, (g.fcts [1, 2] rfl)⟩, q3_of g hK ht hW⟩, g.2.2.1.F ht⟩) g.2.2.1.2.2 dX0_readName_129
        · have g := g.more hF_313
          have kb_1201 : bd 1201 1201 (1201 : Int32) := ⟨by decide, by decide⟩
          subst hQ
          exact W.vret hx hb hr (fun t ht hW => ⟨⟨_, rfl, Or.inr (⟨hG_309, hG_310, 1201, kb_1201, x_311, h_312, (g.fcts [0, 1] rfl)⟩), q3_of g hK ht hW⟩, g.2.2.1.F ht⟩) g.2.2.1.2.2 dX0_readName_129
      · have fc_295 := neq_f c_295
        have b_315 : bd 1 1 x_294 := neX fc_295 bx_294 kb_0 (by decide)
        refine lv_aload hx hb dX0_readName_99 (lv_at hl 0 rfl) ?_
        refine g_geti (C := RX6) (T := TX6) (N := 13) hx hb hts (mc_ inX6) hown hK g ma_293 ka_293 (by decide) rfl 6 (by decide) rfl (hts _ (List.mem_cons_of_mem _ t_577)) (fun _ h9 => h9) rfl dX0_readName_101 (fun x_316 bx_316 g => ?_)
        refine lv_if_ne (tgt := 116) hx hb dX0_readName_104 (by decide) (fun c_317 => ?_) (fun c_317 => ?_)
        · have fc_317 := neq_f c_317
          have b_318 : bd 1 1 x_316 := neX fc_317 bx_316 kb_0 (by decide)
          refine lv_aload_n hx hb dX0_readName_116 rfl (lv_at hl 4 rfl) ?_
          refine lv_iconst (v := 2) hx hb dX0_readName_117 (by decide) ?_
          refine lv_iload_n hx hb dX0_readName_118 rfl (lv_at hl 2 rfl) ?_
          refine lv_iload hx hb dX0_readName_119 (lv_at hl 1 rfl) ?_
          refine lv_aload hx hb dX0_readName_121 (lv_at hl 0 rfl) ?_
          refine g_geti (C := RX6) (T := TX6) (N := 13) hx hb hts (mc_ inX6) hown hK g ma_293 ka_293 (by decide) rfl 3 (by decide) rfl (hts _ (List.mem_cons_of_mem _ t_564)) (fun _ h9 => h9) rfl dX0_readName_123 (fun x_319 bx_319 g => ?_)
          have kb_2 : bd 2 2 (2 : Int32) := ⟨by decide, by decide⟩
          have go_ := g
          refine g_callv (va_runV (As := [.int 2, .int r_7, .int r_281, .int x_319]) (rest := []) ⟨hx, hb, hml, hown, hts⟩ (r_X0_openCall_5 l dC dI L kd tys fr_281 H.size g.2.2.2.1 a0_ ma0_ ka0_ 2 kb_2 r_7 r_281 b_289 x_319 q0_ mq0_ kq0_ q2_ mq2_ kq2_ y0_ by0_ T_ (fun j9 => jOK fr_281 q2_ j9) hG_283 hG_284 hG_285 (fun _ h9 => h9) hG_287 (g.fcts [6, 8, 10] rfl)) (cwV 4 hts (gV_ t_1247 t_1249 t_23 t_190 t_1250) rfl rfl rfl (by decide +kernel) ⟨(Nat.le_of_ble_eq_true rfl), (Nat.le_of_ble_eq_true rfl)⟩) (pre3V g hK ma0_ ka0_ (by decide) (q := (RX0, TX0, 14)) rfl) rfl rfl hl.1 rfl (lv_room (Nat.le_of_ble_eq_true rfl)) dX0_readName_126 ⟨(Nat.le_of_ble_eq_true rfl), (Nat.le_of_ble_eq_true rfl)⟩) g hK (by decide) (by decide) (fx' := [(6, 3, a_293, .int x_319), (6, 6, a_293, .int x_316), (5, 7, q1_, .int x_294), (9, 9, q3_, .ref a_291), (7, 2, q2_, .ref a_290), (0, 0, a0_, .ref q0_), (0, 1, a0_, .ref q1_), (0, 2, a0_, .ref q2_), (5, 1, q1_, .ref q3_)]) rfl (fun fr_320 H locs hp hMr_320 g => ?_)
          rcases hp with ⟨hG_321, hG_322, hG_323, hG_324, hG_325, x_326, h_327, x_328, h_329, hF_330⟩ | ⟨hG_331, hG_332, x_333, h_334, hF_335⟩
          · have g := g.more hF_330
            have hs_336 := jS.mv hG_286 hG_324
            subst hQ
            exact W.vret hx hb hr (fun t ht hW => ⟨⟨_, rfl, Or.inl ⟨hG_321, hG_322, hG_323, hs_336, hG_325, x_328, h_329, (g.fcts [1, 2] rfl)⟩, q3_of g hK ht hW⟩, g.2.2.1.F ht⟩) g.2.2.1.2.2 dX0_readName_129
          · have g := g.more hF_335
            have kb_1201 : bd 1201 1201 (1201 : Int32) := ⟨by decide, by decide⟩
            subst hQ
            exact W.vret hx hb hr (fun t ht hW => ⟨⟨_, rfl, Or.inr (⟨hG_331, hG_332, 1201, kb_1201, x_333, h_334, (g.fcts [0, 1] rfl)⟩), q3_of g hK ht hW⟩, g.2.2.1.F ht⟩) g.2.2.1.2.2 dX0_readName_129
        · have fc_317 := eq_f c_317
          have b_337 : bd 0 0 x_316 := eqX fc_317 bx_316 kb_0 (by decide)
          refine lv_aload_n hx hb dX0_readName_107 rfl (lv_at hl 4 rfl) ?_
          refine g_getk (C := RX0) (T := TX0) (N := 14) hx hb hts (mc_ inX0) hown hK g rfl 0 (by decide) rfl (hts _ (List.mem_cons_of_mem _ t_373)) (fun _ h9 => h9) 5 rfl dX0_readName_108 ?_
          refine lv_iconst (v := 5) hx hb dX0_readName_111 (by decide) ?_
          refine lv_iload_n hx hb dX0_readName_112 rfl (lv_at hl 2 rfl) ?_
          have kb_5 : bd 5 5 (5 : Int32) := ⟨by decide, by decide⟩
          have go_ := g
          refine g_callv (va_runV (As := [.int 5, .int r_7]) (rest := []) ⟨hx, hb, hml, hown, hts⟩ (r_X8_fail l dC dI L kd tys fr_281 H.size g.2.2.2.1 q0_ mq0_ kq0_ 5 (bd_sub kb_5 (by decide)) r_7 y0_ by0_ (g.fcts [9] rfl)) (cwV 2 hts (gV_ t_1215 t_1107 t_1108 t_184 t_1109) rfl rfl rfl (by decide +kernel) ⟨(Nat.le_of_ble_eq_true rfl), (Nat.le_of_ble_eq_true rfl)⟩) (pre3V g hK mq0_ kq0_ (by decide) (q := (RX8, TX8, 10)) rfl) rfl rfl hl.1 rfl (lv_room (Nat.le_of_ble_eq_true rfl)) dX0_readName_113 ⟨(Nat.le_of_ble_eq_true rfl), (Nat.le_of_ble_eq_true rfl)⟩) g hK (by decide) (by decide) (fx' := [(6, 6, a_293, .int x_316), (5, 7, q1_, .int x_294), (9, 9, q3_, .ref a_291), (7, 2, q2_, .ref a_290), (0, 0, a0_, .ref q0_), (0, 1, a0_, .ref q1_), (0, 2, a0_, .ref q2_), (5, 1, q1_, .ref q3_)]) rfl (fun fr_338 H locs hp hMr_338 g => ?_)
          obtain ⟨x_339, h_340, hF_341⟩ := hp
          have hG_342 := eJx.frame hMr_338 go_.2.2.2.1 ma0_ ka0_ (by decide) (by decide) hG_283
          have hG_343 := cOK.frame hMr_338 go_.2.2.2.1 mq2_ kq2_ (by decide) (by decide) hG_284
          have hG_344 := dOK.frame hMr_338 go_.2.2.2.1 mq2_ kq2_ (by decide) (by decide) hG_285
          have hG_345 := jS.frame hMr_338 go_.2.2.2.1 mq2_ kq2_ (by decide) (by decide) hG_286
          have hG_346 := eOK.frame hMr_338 go_.2.2.2.1 ma0_ ka0_ (by decide) (by decide) hG_287
          have g := g.more hF_341
          refine lv_aload_n hx hb dX0_readName_116 rfl (lv_at hl 4 rfl) ?_
          refine lv_iconst (v := 2) hx hb dX0_readName_117 (by decide) ?_
          refine lv_iload_n hx hb dX0_readName_118 rfl (lv_at hl 2 rfl) ?_
          refine lv_iload hx hb dX0_readName_119 (lv_at hl 1 rfl) ?_
          refine lv_aload hx hb dX0_readName_121 (lv_at hl 0 rfl) ?_
          refine g_geti (C := RX6) (T := TX6) (N := 13) hx hb hts (mc_ inX6) hown hK g ma_293 ka_293 (by decide) rfl 3 (by decide) rfl (hts _ (List.mem_cons_of_mem _ t_564)) (fun _ h9 => h9) rfl dX0_readName_123 (fun x_347 bx_347 g => ?_)
          have kb_2 : bd 2 2 (2 : Int32) := ⟨by decide, by decide⟩
          have kb_1201 : bd 1201 1201 (1201 : Int32) := ⟨by decide, by decide⟩
          have go_ := g
          refine g_callv (va_runV (As := [.int 2, .int r_7, .int r_281, .int x_347]) (rest := []) ⟨hx, hb, hml, hown, hts⟩ (r_X0_openCall_6 l dC dI L kd tys fr_338 H.size g.2.2.2.1 a0_ ma0_ ka0_ 2 kb_2 r_7 r_281 b_289 x_347 q0_ mq0_ kq0_ q2_ mq2_ kq2_ 1201 kb_1201 x_339 h_340 T_ hG_344 hG_346 (g.fcts [7, 9, 1, 2] rfl)) (cwV 4 hts (gV_ t_1247 t_1249 t_23 t_190 t_1250) rfl rfl rfl (by decide +kernel) ⟨(Nat.le_of_ble_eq_true rfl), (Nat.le_of_ble_eq_true rfl)⟩) (pre3V g hK ma0_ ka0_ (by decide) (q := (RX0, TX0, 14)) rfl) rfl rfl hl.1 rfl (lv_room (Nat.le_of_ble_eq_true rfl)) dX0_readName_126 ⟨(Nat.le_of_ble_eq_true rfl), (Nat.le_of_ble_eq_true rfl)⟩) g hK (by decide) (by decide) (fx' := [(6, 3, a_293, .int x_347), (8, 8, q0_, .int x_339), (6, 6, a_293, .int x_316), (5, 7, q1_, .int x_294), (9, 9, q3_, .ref a_291), (7, 2, q2_, .ref a_290), (0, 0, a0_, .ref q0_), (0, 1, a0_, .ref q1_), (0, 2, a0_, .ref q2_), (5, 1, q1_, .ref q3_)]) rfl (fun fr_348 H locs hp hMr_348 g => ?_)
          obtain ⟨hG_349, x_350, h_351, x_352, h_353, hF_354⟩ := hp
          have hG_355 := cOK.frame hMr_348 go_.2.2.2.1 mq2_ kq2_ (by decide) (by decide) hG_343
          have hG_356 := dOK.frame hMr_348 go_.2.2.2.1 mq2_ kq2_ (by decide) (by decide) hG_344
          have hG_357 := jS.frame hMr_348 go_.2.2.2.1 mq2_ kq2_ (by decide) (by decide) hG_345
          have g := g.more hF_354
          subst hQ
          exact W.vret hx hb hr (fun t ht hW => ⟨⟨_, rfl, Or.inr (⟨hG_356, hG_349, x_352, h_353, x_339, h_340, (g.fcts [1, 3] rfl)⟩), q3_of g hK ht hW⟩, g.2.2.1.F ht⟩) g.2.2.1.2.2 dX0_readName_129
    · have fc_288 := eq_f c_288
      have b_358 : bd (-1) (-1) r_281 := eqX fc_288 h_282 kb_m1 (by decide)
      refine lv_aload_n hx hb dX0_readName_56 rfl (lv_at hl 3 rfl) ?_
      refine g_getk (C := RX0) (T := TX0) (N := 14) hx hb hts (mc_ inX0) hown hK g rfl 0 (by decide) rfl (hts _ (List.mem_cons_of_mem _ t_373)) (fun _ h9 => h9) 1 rfl dX0_readName_57 ?_
      refine lv_iconst (v := 2) hx hb dX0_readName_60 (by decide) ?_
      refine lv_iload_n hx hb dX0_readName_61 rfl (lv_at hl 1 rfl) ?_
      have kb_2 : bd 2 2 (2 : Int32) := ⟨by decide, by decide⟩
      have go_ := g
      refine g_callv (va_runV (As := [.int 2, .int r_7]) (rest := []) ⟨hx, hb, hml, hown, hts⟩ (r_X8_fail l dC dI L kd tys fr_281 H.size g.2.2.2.1 q0_ mq0_ kq0_ 2 (bd_sub kb_2 (by decide)) r_7 y0_ by0_ (g.fcts [5] rfl)) (cwV 2 hts (gV_ t_1215 t_1107 t_1108 t_184 t_1109) rfl rfl rfl (by decide +kernel) ⟨(Nat.le_of_ble_eq_true rfl), (Nat.le_of_ble_eq_true rfl)⟩) (pre3V g hK mq0_ kq0_ (by decide) (q := (RX8, TX8, 10)) rfl) rfl rfl hl.1 rfl (lv_room (Nat.le_of_ble_eq_true rfl)) dX0_readName_62 ⟨(Nat.le_of_ble_eq_true rfl), (Nat.le_of_ble_eq_true rfl)⟩) g hK (by decide) (by decide) (fx' := [(0, 0, a0_, .ref q0_), (0, 1, a0_, .ref q1_), (0, 2, a0_, .ref q2_), (5, 1, q1_, .ref q3_)]) rfl (fun fr_359 H locs hp hMr_359 g => ?_)
      obtain ⟨x_360, h_361, hF_362⟩ := hp
      have hG_363 := eJx.frame hMr_359 go_.2.2.2.1 ma0_ ka0_ (by decide) (by decide) hG_283
      have hG_364 := cOK.frame hMr_359 go_.2.2.2.1 mq2_ kq2_ (by decide) (by decide) hG_284
      have hG_365 := dOK.frame hMr_359 go_.2.2.2.1 mq2_ kq2_ (by decide) (by decide) hG_285
      have hG_366 := jS.frame hMr_359 go_.2.2.2.1 mq2_ kq2_ (by decide) (by decide) hG_286
      have hG_367 := eOK.frame hMr_359 go_.2.2.2.1 ma0_ ka0_ (by decide) (by decide) hG_287
      have g := g.more hF_362
      have kb_1201 : bd 1201 1201 (1201 : Int32) := ⟨by decide, by decide⟩
      subst hQ
      exact W.vret hx hb hr (fun t ht hW => ⟨⟨_, rfl, Or.inr (⟨hG_365, hG_367, 1201, kb_1201, x_360, h_361, (g.fcts [0, 1] rfl)⟩), q3_of g hK ht hW⟩, g.2.2.1.F ht⟩) g.2.2.1.2.2 dX0_readName_65
