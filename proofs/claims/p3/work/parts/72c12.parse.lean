set_option maxHeartbeats 4000000 in
set_option maxRecDepth 100000 in
theorem r_X0_readOld_2 (l : Launch) (dC : Nat → ClassId) (dI : Nat → Nat → Nat) (L : List Nat) (kd : Nat → Nat) (tys : List (ClassId × FieldType)) (f0 : Nat → va_E) (sz : Nat) (hWT : WT L kd tys f0) (a0_ : Nat) (ma0_ : a0_ ∈ L) (ka0_ : kd a0_ = 0) (q0_ : Nat) (mq0_ : q0_ ∈ L) (kq0_ : kd q0_ = 8) (q1_ : Nat) (mq1_ : q1_ ∈ L) (kq1_ : kd q1_ = 5) (q2_ : Nat) (mq2_ : q2_ ∈ L) (kq2_ : kd q2_ = 7) (q3_ : Nat) (mq3_ : q3_ ∈ L) (kq3_ : kd q3_ = 9) (y0_ : Int32) (by0_ : bd 0 0 y0_) (T_ : Nat) (J_ : Int32 → Prop) (hGia0_ : eJx f0 a0_) (hGcq2_ : cOK f0 q2_) (hGdq2_ : dOK L kd f0 q2_ T_) (hGsq2_ : jS f0 q2_ J_) (hGea0_ : eOK f0 a0_) (hfx : Fs L kd f0 [(0, 0, a0_, .ref q0_), (0, 1, a0_, .ref q1_), (0, 2, a0_, .ref q2_), (5, 1, q1_, .ref q3_), (8, 8, q0_, .int y0_)]) : Met l yX0_readOld (.code yX0_readOld cX0_readOld 5 none :: lw_g) ({ frames := 2, cells := 0, slots := 0, locals := 46 }) (va_Pc [.ref a0_] (P3 (dC, dI) L tys f0 sz)) (va_Qv (fun (f : Nat → va_E) => (eJx f a0_ ∧ cOK f q2_ ∧ dOK L kd f q2_ T_ ∧ jS f q2_ J_ ∧ eOK f a0_ ∧ ∃ z0_ : Int32, bd 1 1201 z0_ ∧ ∃ z2_ : Int32, bd (-2147483648) 40 z2_ ∧ Fs L kd f [(8, 6, q0_, .int z0_), (8, 8, q0_, .int y0_), (0, 11, a0_, .int z2_)]) ∨ (dOK L kd f q2_ T_ ∧ eOK f a0_ ∧ ∃ z0_ : Int32, bd 1201 1201 z0_ ∧ ∃ z1_ : Int32, bd 1 7 z1_ ∧ Fs L kd f [(8, 6, q0_, .int z0_), (8, 8, q0_, .int z1_)])) (Q3 (dC, dI) L kd tys [(0, 8), (0, 10), (0, 11), (0, 12), (7, 6), (7, 18), (8, 6), (8, 8), (8, 9)] [110, 111, 112, 113, 114, 115, 138, 139] f0 sz) (pA L sz)) 0 0 (pA L sz) := by
  refine Met.ofW (cc := cX0_readOld) (maxL := 5) (ret := none) (by decide) rfl ?_
  intro p e s m args below meth c s₁ B hml hv
  obtain ⟨rfl, hsz, hP, hK, hD0⟩ := hv
  have hx := B.exec
  have hb := B.bytes
  have hr := B.returns
  have hts := atoms_spec (ws := (.code yX0_readOld cX0_readOld 5 none :: lw_g)) B.pre
  have hown : s.vm.findClass RX0 = some m.cls := findClass_of_methodNamed B.named
  have hlocks := B.notSynchronized
  subst hsz
  have g : G3 (dC, dI) L kd tys s f0 [(0, 8), (0, 10), (0, 11), (0, 12), (7, 6), (7, 18), (8, 6), (8, 8), (8, 9)] [110, 111, 112, 113, 114, 115, 138, 139] f0 s.heap [] [(0, 0, a0_, .ref q0_), (0, 1, a0_, .ref q1_), (0, 2, a0_, .ref q2_), (5, 1, q1_, .ref q3_), (8, 8, q0_, .int y0_)] := G3.start hP hD0 hWT hfx
  have hl := lv_entry ([.ref a0_]) (n := 5) (Nat.le_of_ble_eq_true rfl)
  rw [lg_entry_eq]
  generalize (lg_sl ([.ref a0_]) ++ List.replicate (5 - (lg_sl ([.ref a0_])).length) Slot.unset).toArray = ls at hl ⊢
  have hl : lv_has ls 5 [(0, .ref a0_)] := hl
  refine W_q (fun Q hQ => ?_)
  refine lv_aload_n hx hb dX0_readOld_0 rfl (lv_at hl 0 rfl) ?_
  refine g_getk (C := RX0) (T := TX0) (N := 14) hx hb hts (mc_ inX0) hown hK g rfl 0 (by decide) rfl (hts _ (List.mem_cons_of_mem _ t_373)) (fun _ h9 => h9) 0 rfl dX0_readOld_1 ?_
  have go_ := g
  refine g_calli (va_runV (As := []) (rest := []) ⟨hx, hb, hml, hown, hts⟩ (r_X8_place l dC dI L kd tys f0 s.heap.size g.2.2.2.1 q0_ mq0_ kq0_) (cwV 0 hts (gV_ t_1220 t_1111 t_1112 t_184 t_1113) rfl rfl rfl (by decide +kernel) ⟨(Nat.le_of_ble_eq_true rfl), (Nat.le_of_ble_eq_true rfl)⟩) (pre3V g hK mq0_ kq0_ (by decide) (q := (RX8, TX8, 10)) rfl) rfl rfl hl.1 rfl (lv_room (Nat.le_of_ble_eq_true rfl)) dX0_readOld_4 ⟨(Nat.le_of_ble_eq_true rfl), (Nat.le_of_ble_eq_true rfl)⟩) g hK (by decide) (by decide) (fx' := [(0, 0, a0_, .ref q0_), (0, 1, a0_, .ref q1_), (0, 2, a0_, .ref q2_), (5, 1, q1_, .ref q3_), (8, 8, q0_, .int y0_)]) rfl (fun r_1 fr_1 H locs hp hMr_1 g => ?_)
  have hG_2 := eJx.frame hMr_1 go_.2.2.2.1 ma0_ ka0_ (by decide) (by decide) hGia0_
  have hG_3 := cOK.frame hMr_1 go_.2.2.2.1 mq2_ kq2_ (by decide) (by decide) hGcq2_
  have hG_4 := dOK.frame hMr_1 go_.2.2.2.1 mq2_ kq2_ (by decide) (by decide) hGdq2_
  have hG_5 := jS.frame hMr_1 go_.2.2.2.1 mq2_ kq2_ (by decide) (by decide) hGsq2_
  have hG_6 := eOK.frame hMr_1 go_.2.2.2.1 ma0_ ka0_ (by decide) (by decide) hGea0_
  refine lv_istore_n (lv' := [(1, .int r_1), (0, .ref a0_)]) hx hb dX0_readOld_7 rfl hl (by decide) rfl (fun ls hl => ?_)
  refine lv_aload_n hx hb dX0_readOld_8 rfl (lv_at hl 1 rfl) ?_
  refine g_getk (C := RX0) (T := TX0) (N := 14) hx hb hts (mc_ inX0) hown hK g rfl 0 (by decide) rfl (hts _ (List.mem_cons_of_mem _ t_373)) (fun _ h9 => h9) 0 rfl dX0_readOld_9 ?_
  have go_ := g
  refine g_callv (va_runV (As := []) (rest := []) ⟨hx, hb, hml, hown, hts⟩ (r_X8_next l dC dI L kd tys fr_1 H.size g.2.2.2.1 q0_ mq0_ kq0_) (cwV 0 hts (gV_ t_1225 t_1103 t_1104 t_184 t_1105) rfl rfl rfl (by decide +kernel) ⟨(Nat.le_of_ble_eq_true rfl), (Nat.le_of_ble_eq_true rfl)⟩) (pre3V g hK mq0_ kq0_ (by decide) (q := (RX8, TX8, 10)) rfl) rfl rfl hl.1 rfl (lv_room (Nat.le_of_ble_eq_true rfl)) dX0_readOld_12 ⟨(Nat.le_of_ble_eq_true rfl), (Nat.le_of_ble_eq_true rfl)⟩) g hK (by decide) (by decide) (fx' := [(0, 0, a0_, .ref q0_), (0, 1, a0_, .ref q1_), (0, 2, a0_, .ref q2_), (5, 1, q1_, .ref q3_), (8, 8, q0_, .int y0_)]) rfl (fun fr_7 H locs hp hMr_7 g => ?_)
  obtain ⟨x_8, h_9, hF_10⟩ := hp
  have hG_11 := eJx.frame hMr_7 go_.2.2.2.1 ma0_ ka0_ (by decide) (by decide) hG_2
  have hG_12 := cOK.frame hMr_7 go_.2.2.2.1 mq2_ kq2_ (by decide) (by decide) hG_3
  have hG_13 := dOK.frame hMr_7 go_.2.2.2.1 mq2_ kq2_ (by decide) (by decide) hG_4
  have hG_14 := jS.frame hMr_7 go_.2.2.2.1 mq2_ kq2_ (by decide) (by decide) hG_5
  have hG_15 := eOK.frame hMr_7 go_.2.2.2.1 ma0_ ka0_ (by decide) (by decide) hG_6
  have g := g.more hF_10
  refine lv_aload_n hx hb dX0_readOld_15 rfl (lv_at hl 1 rfl) ?_
  have go_ := g
  refine g_callv (va_runV (As := []) (rest := []) ⟨hx, hb, hml, hown, hts⟩ (r_X0_takeBracket l dC dI L kd tys fr_7 H.size g.2.2.2.1 a0_ ma0_ ka0_ q0_ mq0_ kq0_ y0_ by0_ (g.fcts [1, 5] rfl)) (cwV 0 hts (gV_ t_1289 t_1291 t_29 t_190 t_1292) rfl rfl rfl (by decide +kernel) ⟨(Nat.le_of_ble_eq_true rfl), (Nat.le_of_ble_eq_true rfl)⟩) (pre3V g hK ma0_ ka0_ (by decide) (q := (RX0, TX0, 14)) rfl) rfl rfl hl.1 rfl (lv_room (Nat.le_of_ble_eq_true rfl)) dX0_readOld_16 ⟨(Nat.le_of_ble_eq_true rfl), (Nat.le_of_ble_eq_true rfl)⟩) g hK (by decide) (by decide) (fx' := [(0, 0, a0_, .ref q0_), (0, 1, a0_, .ref q1_), (0, 2, a0_, .ref q2_), (5, 1, q1_, .ref q3_)]) rfl (fun fr_16 H locs hp hMr_16 g => ?_)
  rcases hp with ⟨x_17, h_18, x_19, h_20, hF_21⟩ | ⟨x_22, h_23, hF_24⟩
  · have hG_25 := eJx.frame hMr_16 go_.2.2.2.1 ma0_ ka0_ (by decide) (by decide) hG_11
    have hG_26 := cOK.frame hMr_16 go_.2.2.2.1 mq2_ kq2_ (by decide) (by decide) hG_12
    have hG_27 := dOK.frame hMr_16 go_.2.2.2.1 mq2_ kq2_ (by decide) (by decide) hG_13
    have hG_28 := jS.frame hMr_16 go_.2.2.2.1 mq2_ kq2_ (by decide) (by decide) hG_14
    have hG_29 := eOK.frame hMr_16 go_.2.2.2.1 ma0_ ka0_ (by decide) (by decide) hG_15
    have g := g.more hF_21
    refine lv_aload_n hx hb dX0_readOld_19 rfl (lv_at hl 1 rfl) ?_
    refine g_getk (C := RX0) (T := TX0) (N := 14) hx hb hts (mc_ inX0) hown hK g rfl 0 (by decide) rfl (hts _ (List.mem_cons_of_mem _ t_373)) (fun _ h9 => h9) 3 rfl dX0_readOld_20 ?_
    have go_ := g
    refine g_calli (va_runV (As := []) (rest := []) ⟨hx, hb, hml, hown, hts⟩ (r_X8_place l dC dI L kd tys fr_16 H.size g.2.2.2.1 q0_ mq0_ kq0_) (cwV 0 hts (gV_ t_1220 t_1111 t_1112 t_184 t_1113) rfl rfl rfl (by decide +kernel) ⟨(Nat.le_of_ble_eq_true rfl), (Nat.le_of_ble_eq_true rfl)⟩) (pre3V g hK mq0_ kq0_ (by decide) (q := (RX8, TX8, 10)) rfl) rfl rfl hl.1 rfl (lv_room (Nat.le_of_ble_eq_true rfl)) dX0_readOld_23 ⟨(Nat.le_of_ble_eq_true rfl), (Nat.le_of_ble_eq_true rfl)⟩) g hK (by decide) (by decide) (fx' := [(8, 6, q0_, .int x_17), (0, 11, a0_, .int x_19), (8, 8, q0_, .int y0_), (0, 0, a0_, .ref q0_), (0, 1, a0_, .ref q1_), (0, 2, a0_, .ref q2_), (5, 1, q1_, .ref q3_)]) rfl (fun r_30 fr_30 H locs hp hMr_30 g => ?_)
    have hG_31 := eJx.frame hMr_30 go_.2.2.2.1 ma0_ ka0_ (by decide) (by decide) hG_25
    have hG_32 := cOK.frame hMr_30 go_.2.2.2.1 mq2_ kq2_ (by decide) (by decide) hG_26
    have hG_33 := dOK.frame hMr_30 go_.2.2.2.1 mq2_ kq2_ (by decide) (by decide) hG_27
    have hG_34 := jS.frame hMr_30 go_.2.2.2.1 mq2_ kq2_ (by decide) (by decide) hG_28
    have hG_35 := eOK.frame hMr_30 go_.2.2.2.1 ma0_ ka0_ (by decide) (by decide) hG_29
    refine lv_istore_n (lv' := [(2, .int r_30), (1, .int r_1), (0, .ref a0_)]) hx hb dX0_readOld_26 rfl hl (by decide) rfl (fun ls hl => ?_)
    refine lv_aload_n hx hb dX0_readOld_27 rfl (lv_at hl 2 rfl) ?_
    refine g_getk (C := RX0) (T := TX0) (N := 14) hx hb hts (mc_ inX0) hown hK g rfl 1 (by decide) rfl (hts _ (List.mem_cons_of_mem _ t_374)) (fun _ h9 => h9) 4 rfl dX0_readOld_28 ?_
    refine lv_aload_n hx hb dX0_readOld_31 rfl (lv_at hl 2 rfl) ?_
    refine g_getk (C := RX0) (T := TX0) (N := 14) hx hb hts (mc_ inX0) hown hK g rfl 0 (by decide) rfl (hts _ (List.mem_cons_of_mem _ t_373)) (fun _ h9 => h9) 3 rfl dX0_readOld_32 ?_
    have go_ := g
    refine g_calll (va_runV (As := []) (rest := [.ref q1_]) ⟨hx, hb, hml, hown, hts⟩ (r_X8_value l dC dI L kd tys fr_30 H.size g.2.2.2.1 q0_ mq0_ kq0_) (cwV 0 hts (gV_ t_1238 t_1115 t_1116 t_184 t_1117) rfl rfl rfl (by decide +kernel) ⟨(Nat.le_of_ble_eq_true rfl), (Nat.le_of_ble_eq_true rfl)⟩) (pre3V g hK mq0_ kq0_ (by decide) (q := (RX8, TX8, 10)) rfl) rfl rfl hl.1 rfl (lv_room (Nat.le_of_ble_eq_true rfl)) dX0_readOld_35 ⟨(Nat.le_of_ble_eq_true rfl), (Nat.le_of_ble_eq_true rfl)⟩) g hK (by decide) (by decide) (fx' := [(8, 6, q0_, .int x_17), (0, 11, a0_, .int x_19), (8, 8, q0_, .int y0_), (0, 0, a0_, .ref q0_), (0, 1, a0_, .ref q1_), (0, 2, a0_, .ref q2_), (5, 1, q1_, .ref q3_)]) rfl (fun r_36 fr_36 H locs hp hMr_36 g => ?_)
    have hG_37 := eJx.frame hMr_36 go_.2.2.2.1 ma0_ ka0_ (by decide) (by decide) hG_31
    have hG_38 := cOK.frame hMr_36 go_.2.2.2.1 mq2_ kq2_ (by decide) (by decide) hG_32
    have hG_39 := dOK.frame hMr_36 go_.2.2.2.1 mq2_ kq2_ (by decide) (by decide) hG_33
    have hG_40 := jS.frame hMr_36 go_.2.2.2.1 mq2_ kq2_ (by decide) (by decide) hG_34
    have hG_41 := eOK.frame hMr_36 go_.2.2.2.1 ma0_ ka0_ (by decide) (by decide) hG_35
    have go_ := g
    refine g_calli (va_runV (As := [.long r_36]) (rest := []) ⟨hx, hb, hml, hown, hts⟩ (r_X5_placeNamed l dC dI L kd tys fr_36 H.size g.2.2.2.1 q1_ mq1_ kq1_ r_36 q3_ mq3_ kq3_ (g.fcts [6] rfl)) (cwV 1 hts (gV_ t_1251 t_1252 t_1253 t_189 t_1254) rfl rfl rfl (by decide +kernel) ⟨(Nat.le_of_ble_eq_true rfl), (Nat.le_of_ble_eq_true rfl)⟩) (pre3V g hK mq1_ kq1_ (by decide) (q := (RX5, TX5, 9)) rfl) rfl rfl hl.1 rfl (lv_room (Nat.le_of_ble_eq_true rfl)) dX0_readOld_38 ⟨(Nat.le_of_ble_eq_true rfl), (Nat.le_of_ble_eq_true rfl)⟩) g hK (by decide) (by decide) (fx' := [(8, 6, q0_, .int x_17), (0, 11, a0_, .int x_19), (8, 8, q0_, .int y0_), (0, 0, a0_, .ref q0_), (0, 1, a0_, .ref q1_), (0, 2, a0_, .ref q2_), (5, 1, q1_, .ref q3_)]) rfl (fun r_42 fr_42 H locs hp hMr_42 g => ?_)
    obtain ⟨h_43, -⟩ := hp
    have hG_44 := eJx.frame hMr_42 go_.2.2.2.1 ma0_ ka0_ (by decide) (by decide) hG_37
    have hG_45 := cOK.frame hMr_42 go_.2.2.2.1 mq2_ kq2_ (by decide) (by decide) hG_38
    have hG_46 := dOK.frame hMr_42 go_.2.2.2.1 mq2_ kq2_ (by decide) (by decide) hG_39
    have hG_47 := jS.frame hMr_42 go_.2.2.2.1 mq2_ kq2_ (by decide) (by decide) hG_40
    have hG_48 := eOK.frame hMr_42 go_.2.2.2.1 ma0_ ka0_ (by decide) (by decide) hG_41
    refine lv_istore_n (lv' := [(3, .int r_42), (2, .int r_30), (1, .int r_1), (0, .ref a0_)]) hx hb dX0_readOld_41 rfl hl (by decide) rfl (fun ls hl => ?_)
    refine lv_aload_n hx hb dX0_readOld_42 rfl (lv_at hl 3 rfl) ?_
    refine g_getk (C := RX0) (T := TX0) (N := 14) hx hb hts (mc_ inX0) hown hK g rfl 0 (by decide) rfl (hts _ (List.mem_cons_of_mem _ t_373)) (fun _ h9 => h9) 3 rfl dX0_readOld_43 ?_
    have go_ := g
    refine g_callv (va_runV (As := []) (rest := []) ⟨hx, hb, hml, hown, hts⟩ (r_X8_next l dC dI L kd tys fr_42 H.size g.2.2.2.1 q0_ mq0_ kq0_) (cwV 0 hts (gV_ t_1225 t_1103 t_1104 t_184 t_1105) rfl rfl rfl (by decide +kernel) ⟨(Nat.le_of_ble_eq_true rfl), (Nat.le_of_ble_eq_true rfl)⟩) (pre3V g hK mq0_ kq0_ (by decide) (q := (RX8, TX8, 10)) rfl) rfl rfl hl.1 rfl (lv_room (Nat.le_of_ble_eq_true rfl)) dX0_readOld_46 ⟨(Nat.le_of_ble_eq_true rfl), (Nat.le_of_ble_eq_true rfl)⟩) g hK (by decide) (by decide) (fx' := [(0, 11, a0_, .int x_19), (8, 8, q0_, .int y0_), (0, 0, a0_, .ref q0_), (0, 1, a0_, .ref q1_), (0, 2, a0_, .ref q2_), (5, 1, q1_, .ref q3_)]) rfl (fun fr_49 H locs hp hMr_49 g => ?_)
    obtain ⟨x_50, h_51, hF_52⟩ := hp
    have hG_53 := eJx.frame hMr_49 go_.2.2.2.1 ma0_ ka0_ (by decide) (by decide) hG_44
    have hG_54 := cOK.frame hMr_49 go_.2.2.2.1 mq2_ kq2_ (by decide) (by decide) hG_45
    have hG_55 := dOK.frame hMr_49 go_.2.2.2.1 mq2_ kq2_ (by decide) (by decide) hG_46
    have hG_56 := jS.frame hMr_49 go_.2.2.2.1 mq2_ kq2_ (by decide) (by decide) hG_47
    have hG_57 := eOK.frame hMr_49 go_.2.2.2.1 ma0_ ka0_ (by decide) (by decide) hG_48
    have g := g.more hF_52
    refine lv_iload_n hx hb dX0_readOld_49 rfl (lv_at hl 0 rfl) ?_
    refine lv_iconst (v := (-1)) hx hb dX0_readOld_50 (by decide) ?_
    have kb_m1 : bd (-1) (-1) ((-1) : Int32) := ⟨by decide, by decide⟩
    refine lv_icmp_ne (tgt := 64) hx hb dX0_readOld_51 (by decide) (fun c_58 => ?_) (fun c_58 => ?_)
    · have fc_58 := neq_f c_58
      have b_59 : bd 0 26 r_42 := neX fc_58 h_43 kb_m1 (by decide)
      refine lv_aload_n hx hb dX0_readOld_64 rfl (lv_at hl 3 rfl) ?_
      refine g_getk (C := RX0) (T := TX0) (N := 14) hx hb hts (mc_ inX0) hown hK g rfl 1 (by decide) rfl (hts _ (List.mem_cons_of_mem _ t_374)) (fun _ h9 => h9) 4 rfl dX0_readOld_65 ?_
      refine g_getk (C := RX5) (T := TX5) (N := 9) hx hb hts (mc_ inX5) hown hK g rfl 1 (by decide) rfl (hts _ (List.mem_cons_of_mem _ t_332)) (fun _ h9 => h9) 6 rfl dX0_readOld_68 ?_
      refine lv_iload_n hx hb dX0_readOld_71 rfl (lv_at hl 0 rfl) ?_
      have go_ := g
      refine g_calli (va_runV (As := [.int r_42]) (rest := []) ⟨hx, hb, hml, hown, hts⟩ (r_X9_isRow l dC dI L kd tys fr_49 H.size g.2.2.2.1 q3_ mq3_ kq3_ r_42) (cwV 1 hts (gV_ t_1256 t_1257 t_1258 t_192 t_1259) rfl rfl rfl (by decide +kernel) ⟨(Nat.le_of_ble_eq_true rfl), (Nat.le_of_ble_eq_true rfl)⟩) (pre3V g hK mq3_ kq3_ (by decide) (q := (RX9, TX9, 13)) rfl) rfl rfl hl.1 rfl (lv_room (Nat.le_of_ble_eq_true rfl)) dX0_readOld_72 ⟨(Nat.le_of_ble_eq_true rfl), (Nat.le_of_ble_eq_true rfl)⟩) g hK (by decide) (by decide) (fx' := [(8, 6, q0_, .int x_50), (0, 11, a0_, .int x_19), (8, 8, q0_, .int y0_), (0, 0, a0_, .ref q0_), (0, 1, a0_, .ref q1_), (0, 2, a0_, .ref q2_), (5, 1, q1_, .ref q3_)]) rfl (fun r_60 fr_60 H locs hp hMr_60 g => ?_)
      rcases hp with ⟨h_61, -⟩ | ⟨h_62, h_63, x_64, h_65, hF_66⟩
      · have hG_67 := eJx.frame hMr_60 go_.2.2.2.1 ma0_ ka0_ (by decide) (by decide) hG_53
        have hG_68 := cOK.frame hMr_60 go_.2.2.2.1 mq2_ kq2_ (by decide) (by decide) hG_54
        have hG_69 := dOK.frame hMr_60 go_.2.2.2.1 mq2_ kq2_ (by decide) (by decide) hG_55
        have hG_70 := jS.frame hMr_60 go_.2.2.2.1 mq2_ kq2_ (by decide) (by decide) hG_56
        have hG_71 := eOK.frame hMr_60 go_.2.2.2.1 ma0_ ka0_ (by decide) (by decide) hG_57
        obtain rfl : r_60 = 0 := h_61
        refine lv_istore (lv' := [(4, .int 0), (3, .int r_42), (2, .int r_30), (1, .int r_1), (0, .ref a0_)]) hx hb dX0_readOld_75 hl (by decide) rfl (fun ls hl => ?_)
        refine lv_iload_n hx hb dX0_readOld_77 rfl (lv_at hl 1 rfl) ?_
        refine lv_bipush (v := 16) hx hb dX0_readOld_78 (by decide) ?_
        have kb_16 : bd 16 16 (16 : Int32) := ⟨by decide, by decide⟩
        refine lv_icmp_ge (tgt := 105) hx hb dX0_readOld_80 (by decide) (fun c_72 => ?_) (fun c_72 => ?_)
        · have fc_72 := le_f c_72
          have b_73 : bd 16 26 r_42 := leR fc_72 kb_16 b_59 (by decide)
          refine lv_aload_n hx hb dX0_readOld_105 rfl (lv_at hl 4 rfl) ?_
          refine g_getk (C := RX0) (T := TX0) (N := 14) hx hb hts (mc_ inX0) hown hK g rfl 0 (by decide) rfl (hts _ (List.mem_cons_of_mem _ t_373)) (fun _ h9 => h9) 3 rfl dX0_readOld_106 ?_
          refine lv_iconst (v := 5) hx hb dX0_readOld_109 (by decide) ?_
          refine lv_iload_n hx hb dX0_readOld_110 rfl (lv_at hl 2 rfl) ?_
          have kb_5 : bd 5 5 (5 : Int32) := ⟨by decide, by decide⟩
          have go_ := g
          refine g_callv (va_runV (As := [.int 5, .int r_30]) (rest := []) ⟨hx, hb, hml, hown, hts⟩ (r_X8_fail l dC dI L kd tys fr_60 H.size g.2.2.2.1 q0_ mq0_ kq0_ 5 (bd_sub kb_5 (by decide)) r_30 y0_ by0_ (g.fcts [2] rfl)) (cwV 2 hts (gV_ t_1215 t_1107 t_1108 t_184 t_1109) rfl rfl rfl (by decide +kernel) ⟨(Nat.le_of_ble_eq_true rfl), (Nat.le_of_ble_eq_true rfl)⟩) (pre3V g hK mq0_ kq0_ (by decide) (q := (RX8, TX8, 10)) rfl) rfl rfl hl.1 rfl (lv_room (Nat.le_of_ble_eq_true rfl)) dX0_readOld_111 ⟨(Nat.le_of_ble_eq_true rfl), (Nat.le_of_ble_eq_true rfl)⟩) g hK (by decide) (by decide) (fx' := [(0, 11, a0_, .int x_19), (0, 0, a0_, .ref q0_), (0, 1, a0_, .ref q1_), (0, 2, a0_, .ref q2_), (5, 1, q1_, .ref q3_)]) rfl (fun fr_74 H locs hp hMr_74 g => ?_)
          obtain ⟨x_75, h_76, hF_77⟩ := hp
          have hG_78 := eJx.frame hMr_74 go_.2.2.2.1 ma0_ ka0_ (by decide) (by decide) hG_67
          have hG_79 := cOK.frame hMr_74 go_.2.2.2.1 mq2_ kq2_ (by decide) (by decide) hG_68
          have hG_80 := dOK.frame hMr_74 go_.2.2.2.1 mq2_ kq2_ (by decide) (by decide) hG_69
          have hG_81 := jS.frame hMr_74 go_.2.2.2.1 mq2_ kq2_ (by decide) (by decide) hG_70
          have hG_82 := eOK.frame hMr_74 go_.2.2.2.1 ma0_ ka0_ (by decide) (by decide) hG_71
          have g := g.more hF_77
          have kb_1201 : bd 1201 1201 (1201 : Int32) := ⟨by decide, by decide⟩
          subst hQ
          exact W.vret hx hb hr (fun t ht hW => ⟨⟨_, rfl, Or.inr (⟨hG_80, hG_82, 1201, kb_1201, x_75, h_76, (g.fcts [0, 1] rfl)⟩), q3_of g hK ht hW⟩, g.2.2.1.F ht⟩) g.2.2.1.2.2 dX0_readOld_114
        · have fc_72 := nle_f c_72
          have b_83 : bd 0 15 r_42 := ltL fc_72 b_59 kb_16 (by decide)
          refine lv_iload hx hb dX0_readOld_83 (lv_at hl 0 rfl) ?_
          refine lv_aload_n hx hb dX0_readOld_85 rfl (lv_at hl 4 rfl) ?_
          refine g_getk (C := RX0) (T := TX0) (N := 14) hx hb hts (mc_ inX0) hown hK g rfl 0 (by decide) rfl (hts _ (List.mem_cons_of_mem _ t_373)) (fun _ h9 => h9) 3 rfl dX0_readOld_86 ?_
          have go_ := g
          refine g_calli (va_runV (As := []) (rest := [.int 0]) ⟨hx, hb, hml, hown, hts⟩ (r_X8_kind l dC dI L kd tys fr_60 H.size g.2.2.2.1 q0_ mq0_ kq0_) (cwV 0 hts (gV_ t_1186 t_1119 t_1120 t_184 t_1121) rfl rfl rfl (by decide +kernel) ⟨(Nat.le_of_ble_eq_true rfl), (Nat.le_of_ble_eq_true rfl)⟩) (pre3V g hK mq0_ kq0_ (by decide) (q := (RX8, TX8, 10)) rfl) rfl rfl hl.1 rfl (lv_room (Nat.le_of_ble_eq_true rfl)) dX0_readOld_89 ⟨(Nat.le_of_ble_eq_true rfl), (Nat.le_of_ble_eq_true rfl)⟩) g hK (by decide) (by decide) (fx' := [(8, 6, q0_, .int x_50), (0, 11, a0_, .int x_19), (8, 8, q0_, .int y0_), (0, 0, a0_, .ref q0_), (0, 1, a0_, .ref q1_), (0, 2, a0_, .ref q2_), (5, 1, q1_, .ref q3_)]) rfl (fun r_84 fr_84 H locs hp hMr_84 g => ?_)
          have hG_85 := eJx.frame hMr_84 go_.2.2.2.1 ma0_ ka0_ (by decide) (by decide) hG_67
          have hG_86 := cOK.frame hMr_84 go_.2.2.2.1 mq2_ kq2_ (by decide) (by decide) hG_68
          have hG_87 := dOK.frame hMr_84 go_.2.2.2.1 mq2_ kq2_ (by decide) (by decide) hG_69
          have hG_88 := jS.frame hMr_84 go_.2.2.2.1 mq2_ kq2_ (by decide) (by decide) hG_70
          have hG_89 := eOK.frame hMr_84 go_.2.2.2.1 ma0_ ka0_ (by decide) (by decide) hG_71
          refine lv_bipush (v := 91) hx hb dX0_readOld_92 (by decide) ?_
          have kb_91 : bd 91 91 (91 : Int32) := ⟨by decide, by decide⟩
          refine lv_icmp_ne (tgt := 101) hx hb dX0_readOld_94 (by decide) (fun c_90 => ?_) (fun c_90 => ?_)
          · have fc_90 := neq_f c_90
            refine lv_iconst (v := 0) hx hb dX0_readOld_101 (by decide) ?_
            refine lv_icmp_eq (tgt := 115) hx hb dX0_readOld_102 (by decide) (fun c_ => ?_) (fun c_ => absurd (by decide) c_)
            refine lv_aload_n hx hb dX0_readOld_115 rfl (lv_at hl 4 rfl) ?_
            refine g_getk (C := RX0) (T := TX0) (N := 14) hx hb hts (mc_ inX0) hown hK g rfl 2 (by decide) rfl (hts _ (List.mem_cons_of_mem _ t_375)) (fun _ h9 => h9) 5 rfl dX0_readOld_116 ?_
            refine lv_dup hx hb dX0_readOld_119 rfl ?_
            refine g_geti (C := RX7) (T := TX7) (N := 19) hx hb hts (mc_ inX7) hown hK g mq2_ kq2_ (by decide) rfl 18 (by decide) rfl (hts _ (List.mem_cons_of_mem _ t_681)) (fun _ h9 => h9) rfl dX0_readOld_120 (fun x_91 bx_91 g => ?_)
            refine lv_iconst (v := 2) hx hb dX0_readOld_123 (by decide) ?_
            have kb_2 : bd 2 2 (2 : Int32) := ⟨by decide, by decide⟩
            refine lv_iadd hx hb dX0_readOld_124 ?_
            refine lv_topi (fun y_92 ey_92 => ?_)
            have go_ := g
            refine g_put (C := RX7) (T := TX7) (N := 19) hx hb hts (mc_ inX7) tyX7 tyX7_ok nmX7 hown hK g mq2_ kq2_ (by decide) rfl 18 (by decide) (hts _ (List.mem_cons_of_mem _ t_681)) (fun _ h9 => h9) rfl rfl (okV_i (bdT y_92)) rfl rfl (by decide) (Or.inr (Or.inl (by decide))) (fx' := [(8, 6, q0_, .int x_50), (0, 11, a0_, .int x_19), (8, 8, q0_, .int y0_), (0, 0, a0_, .ref q0_), (0, 1, a0_, .ref q1_), (0, 2, a0_, .ref q2_), (5, 1, q1_, .ref q3_)]) rfl dX0_readOld_125 (fun f H locs hM_93 g => ?_)
            have hG_94 := eJx.frame hM_93 go_.2.2.2.1 ma0_ ka0_ (by decide) (by decide) hG_85
            have hG_95 := cOK.frame hM_93 go_.2.2.2.1 mq2_ kq2_ (by decide) (by decide) hG_86
            have hG_96 := dOK.frame hM_93 go_.2.2.2.1 mq2_ kq2_ (by decide) (by decide) hG_87
            have hG_97 := jS.frame hM_93 go_.2.2.2.1 mq2_ kq2_ (by decide) (by decide) hG_88
            have hG_98 := eOK.frame hM_93 go_.2.2.2.1 ma0_ ka0_ (by decide) (by decide) hG_89
            refine lv_iload hx hb dX0_readOld_128 (lv_at hl 0 rfl) ?_
            refine lv_if_eq (tgt := 167) hx hb dX0_readOld_130 (by decide) (fun c_ => ?_) (fun c_ => absurd (by decide) c_)
            refine lv_aload_n hx hb dX0_readOld_167 rfl (lv_at hl 4 rfl) ?_
            refine g_getk (C := RX0) (T := TX0) (N := 14) hx hb hts (mc_ inX0) hown hK g rfl 0 (by decide) rfl (hts _ (List.mem_cons_of_mem _ t_373)) (fun _ h9 => h9) 4 rfl dX0_readOld_168 ?_
            refine lv_bipush (v := 41) hx hb dX0_readOld_171 (by decide) ?_
            have go_ := g
            refine g_callv (va_runV (As := [.int 41]) (rest := []) ⟨hx, hb, hml, hown, hts⟩ (r_X8_take l dC dI L kd tys f H.size g.2.2.2.1 q0_ mq0_ kq0_ 41 y0_ by0_ (g.fcts [3] rfl)) (cwV 1 hts (gV_ t_1284 t_1099 t_1100 t_184 t_1101) rfl rfl rfl (by decide +kernel) ⟨(Nat.le_of_ble_eq_true rfl), (Nat.le_of_ble_eq_true rfl)⟩) (pre3V g hK mq0_ kq0_ (by decide) (q := (RX8, TX8, 10)) rfl) rfl rfl hl.1 rfl (lv_room (Nat.le_of_ble_eq_true rfl)) dX0_readOld_173 ⟨(Nat.le_of_ble_eq_true rfl), (Nat.le_of_ble_eq_true rfl)⟩) g hK (by decide) (by decide) (fx' := [(7, 18, q2_, .int y_92), (0, 11, a0_, .int x_19), (0, 0, a0_, .ref q0_), (0, 1, a0_, .ref q1_), (0, 2, a0_, .ref q2_), (5, 1, q1_, .ref q3_)]) rfl (fun fr_99 H locs hp hMr_99 g => ?_)
            rcases hp with ⟨x_100, h_101, hF_102⟩ | ⟨x_103, h_104, hF_105⟩
            · have hG_106 := eJx.frame hMr_99 go_.2.2.2.1 ma0_ ka0_ (by decide) (by decide) hG_94
              have hG_107 := cOK.frame hMr_99 go_.2.2.2.1 mq2_ kq2_ (by decide) (by decide) hG_95
              have hG_108 := dOK.frame hMr_99 go_.2.2.2.1 mq2_ kq2_ (by decide) (by decide) hG_96
              have hG_109 := jS.frame hMr_99 go_.2.2.2.1 mq2_ kq2_ (by decide) (by decide) hG_97
              have hG_110 := eOK.frame hMr_99 go_.2.2.2.1 ma0_ ka0_ (by decide) (by decide) hG_98
              have g := g.more hF_102
              refine lv_aload_n hx hb dX0_readOld_176 rfl (lv_at hl 4 rfl) ?_
              refine g_getk (C := RX0) (T := TX0) (N := 14) hx hb hts (mc_ inX0) hown hK g rfl 2 (by decide) rfl (hts _ (List.mem_cons_of_mem _ t_375)) (fun _ h9 => h9) 6 rfl dX0_readOld_177 ?_
              refine lv_iconst (v := 4) hx hb dX0_readOld_180 (by decide) ?_
              refine lv_aload_n hx hb dX0_readOld_181 rfl (lv_at hl 4 rfl) ?_
              refine g_getk (C := RX0) (T := TX0) (N := 14) hx hb hts (mc_ inX0) hown hK g rfl 1 (by decide) rfl (hts _ (List.mem_cons_of_mem _ t_374)) (fun _ h9 => h9) 5 rfl dX0_readOld_182 ?_
              refine g_getk (C := RX5) (T := TX5) (N := 9) hx hb hts (mc_ inX5) hown hK g rfl 1 (by decide) rfl (hts _ (List.mem_cons_of_mem _ t_332)) (fun _ h9 => h9) 7 rfl dX0_readOld_185 ?_
              refine lv_iload_n hx hb dX0_readOld_188 rfl (lv_at hl 1 rfl) ?_
              have go_ := g
              refine g_calli (va_runV (As := [.int r_42]) (rest := [.int 4, .ref q2_]) ⟨hx, hb, hml, hown, hts⟩ (r_X9_spanOf l dC dI L kd tys fr_99 H.size g.2.2.2.1 q3_ mq3_ kq3_ r_42) (cwV 1 hts (gV_ t_1264 t_1265 t_1266 t_192 t_1267) rfl rfl rfl (by decide +kernel) ⟨(Nat.le_of_ble_eq_true rfl), (Nat.le_of_ble_eq_true rfl)⟩) (pre3V g hK mq3_ kq3_ (by decide) (q := (RX9, TX9, 13)) rfl) rfl rfl hl.1 rfl (lv_room (Nat.le_of_ble_eq_true rfl)) dX0_readOld_189 ⟨(Nat.le_of_ble_eq_true rfl), (Nat.le_of_ble_eq_true rfl)⟩) g hK (by decide) (by decide) (fx' := [(8, 6, q0_, .int x_100), (8, 8, q0_, .int y0_), (7, 18, q2_, .int y_92), (0, 11, a0_, .int x_19), (0, 0, a0_, .ref q0_), (0, 1, a0_, .ref q1_), (0, 2, a0_, .ref q2_), (5, 1, q1_, .ref q3_)]) rfl (fun r_111 fr_111 H locs hp hMr_111 g => ?_)
              obtain ⟨h_112, -⟩ := hp
              have hG_113 := eJx.frame hMr_111 go_.2.2.2.1 ma0_ ka0_ (by decide) (by decide) hG_106
              have hG_114 := cOK.frame hMr_111 go_.2.2.2.1 mq2_ kq2_ (by decide) (by decide) hG_107
              have hG_115 := dOK.frame hMr_111 go_.2.2.2.1 mq2_ kq2_ (by decide) (by decide) hG_108
              have hG_116 := jS.frame hMr_111 go_.2.2.2.1 mq2_ kq2_ (by decide) (by decide) hG_109
              have hG_117 := eOK.frame hMr_111 go_.2.2.2.1 ma0_ ka0_ (by decide) (by decide) hG_110
              obtain ⟨a_118, ma_118, ka_118, g⟩ := g_factr g mq2_ kq2_ (by decide) 4 rfl
              obtain ⟨a_119, ma_119, ka_119, g⟩ := g_factr g mq2_ kq2_ (by decide) 5 rfl
              obtain ⟨x_120, bx_120, g⟩ := g_facti g mq2_ kq2_ (by decide) 6 rfl
              have kb_4 : bd 4 4 (4 : Int32) := ⟨by decide, by decide⟩
              have go_ := g
              refine g_callv (va_runV (As := [.int 4, .int r_111]) (rest := []) ⟨hx, hb, hml, hown, hts⟩ (r_X7_emitN l dC dI L kd tys fr_111 H.size g.2.2.2.1 q2_ mq2_ kq2_ a_118 ma_118 ka_118 a_119 ma_119 ka_119 x_120 bx_120 T_ hG_115 (4 : Int32) r_111 (fun j9 => jOK fr_111 q2_ j9) hG_114 (fun _ h9 => h9) ⟨(fun h9 => ⟨(by have h9_0 := h_112; unfold bd at h9_0; have h9_1 := b_83; unfold bd at h9_1; have h9_2 := h_101; unfold bd at h9_2; have h9_3 := bx_120; unfold bd at h9_3; have h9_4 := h_18; unfold bd at h9_4; have h9_5 := h_20; unfold bd at h9_5; have h9_6 := h_51; unfold bd at h9_6; have h9_7 := h_9; unfold bd at h9_7; have h9_8 := by0_; unfold bd at h9_8; have h8_0 := kb_16; unfold bd at h8_0; have h8_1 := kb_2; unfold bd at h8_1; have h8_2 := kb_4; unfold bd at h8_2; have h8_3 := kb_91; unfold bd at h8_3; have h8_4 := kb_m1; unfold bd at h8_4; omega), (by have h9_0 := h_112; unfold bd at h9_0; have h9_1 := b_83; unfold bd at h9_1; have h9_2 := h_101; unfold bd at h9_2; have h9_3 := bx_120; unfold bd at h9_3; have h9_4 := h_18; unfold bd at h9_4; have h9_5 := h_20; unfold bd at h9_5; have h9_6 := h_51; unfold bd at h9_6; have h9_7 := h_9; unfold bd at h9_7; have h9_8 := by0_; unfold bd at h9_8; have h8_0 := kb_16; unfold bd at h8_0; have h8_1 := kb_2; unfold bd at h8_1; have h8_2 := kb_4; unfold bd at h8_2; have h8_3 := kb_91; unfold bd at h8_3; have h8_4 := kb_m1; unfold bd at h8_4; omega)⟩), (fun h9 => ⟨(by have h9_0 := h_112; unfold bd at h9_0; have h9_1 := b_83; unfold bd at h9_1; have h9_2 := h_101; unfold bd at h9_2; have h9_3 := bx_120; unfold bd at h9_3; have h9_4 := h_18; unfold bd at h9_4; have h9_5 := h_20; unfold bd at h9_5; have h9_6 := h_51; unfold bd at h9_6; have h9_7 := h_9; unfold bd at h9_7; have h9_8 := by0_; unfold bd at h9_8; have h8_0 := kb_16; unfold bd at h8_0; have h8_1 := kb_2; unfold bd at h8_1; have h8_2 := kb_4; unfold bd at h8_2; have h8_3 := kb_91; unfold bd at h8_3; have h8_4 := kb_m1; unfold bd at h8_4; omega), (by have h9_0 := h_112; unfold bd at h9_0; have h9_1 := b_83; unfold bd at h9_1; have h9_2 := h_101; unfold bd at h9_2; have h9_3 := bx_120; unfold bd at h9_3; have h9_4 := h_18; unfold bd at h9_4; have h9_5 := h_20; unfold bd at h9_5; have h9_6 := h_51; unfold bd at h9_6; have h9_7 := h_9; unfold bd at h9_7; have h9_8 := by0_; unfold bd at h9_8; have h8_0 := kb_16; unfold bd at h8_0; have h8_1 := kb_2; unfold bd at h8_1; have h8_2 := kb_4; unfold bd at h8_2; have h8_3 := kb_91; unfold bd at h8_3; have h8_4 := kb_m1; unfold bd at h8_4; omega)⟩), (fun h9 => ⟨(by have h9_0 := h_112; unfold bd at h9_0; have h9_1 := b_83; unfold bd at h9_1; have h9_2 := h_101; unfold bd at h9_2; have h9_3 := bx_120; unfold bd at h9_3; have h9_4 := h_18; unfold bd at h9_4; have h9_5 := h_20; unfold bd at h9_5; have h9_6 := h_51; unfold bd at h9_6; have h9_7 := h_9; unfold bd at h9_7; have h9_8 := by0_; unfold bd at h9_8; have h8_0 := kb_16; unfold bd at h8_0; have h8_1 := kb_2; unfold bd at h8_1; have h8_2 := kb_4; unfold bd at h8_2; have h8_3 := kb_91; unfold bd at h8_3; have h8_4 := kb_m1; unfold bd at h8_4; omega), (by have h9_0 := h_112; unfold bd at h9_0; have h9_1 := b_83; unfold bd at h9_1; have h9_2 := h_101; unfold bd at h9_2; have h9_3 := bx_120; unfold bd at h9_3; have h9_4 := h_18; unfold bd at h9_4; have h9_5 := h_20; unfold bd at h9_5; have h9_6 := h_51; unfold bd at h9_6; have h9_7 := h_9; unfold bd at h9_7; have h9_8 := by0_; unfold bd at h9_8; have h8_0 := kb_16; unfold bd at h8_0; have h8_1 := kb_2; unfold bd at h8_1; have h8_2 := kb_4; unfold bd at h8_2; have h8_3 := kb_91; unfold bd at h8_3; have h8_4 := kb_m1; unfold bd at h8_4; omega)⟩)⟩ (g.fcts [2, 1, 0] rfl)) (cwV 2 hts (gV_ t_1203 t_1204 t_1205 t_191 t_1206) rfl rfl rfl (by decide +kernel) ⟨(Nat.le_of_ble_eq_true rfl), (Nat.le_of_ble_eq_true rfl)⟩) (pre3V g hK mq2_ kq2_ (by decide) (q := (RX7, TX7, 19)) rfl) rfl rfl hl.1 rfl (lv_room (Nat.le_of_ble_eq_true rfl)) dX0_readOld_192 ⟨(Nat.le_of_ble_eq_true rfl), (Nat.le_of_ble_eq_true rfl)⟩) g hK (by decide) (by decide) (fx' := [(7, 5, q2_, .ref a_119), (7, 4, q2_, .ref a_118), (8, 6, q0_, .int x_100), (8, 8, q0_, .int y0_), (7, 18, q2_, .int y_92), (0, 11, a0_, .int x_19), (0, 0, a0_, .ref q0_), (0, 1, a0_, .ref q1_), (0, 2, a0_, .ref q2_), (5, 1, q1_, .ref q3_)]) rfl (fun fr_121 H locs hp hMr_121 g => ?_)
              obtain ⟨hG_122, hG_123, hG_124, hx_125, x_126, h_127, hF_128⟩ := hp
              have hG_129 := eOK.frame hMr_121 go_.2.2.2.1 ma0_ ka0_ (by decide) (by decide) hG_117
              have g := g.more hF_128
              have hs_130 := jS.mv hG_116 hG_124
              have hG_131 := eJx.mv hG_113 hMr_121 go_.2.2.2.1 ma0_ ka0_ (by decide) (by decide) (((hMr_121 a0_ ma0_).1 2 (by rw [ka0_]; decide) (by rw [ka0_]; decide)).symm.trans (fx_at g (i := 9) rfl).2.2.2) hG_124
              refine lv_aload_n hx hb dX0_readOld_195 rfl (lv_at hl 4 rfl) ?_
              refine lv_iconst (v := 2) hx hb dX0_readOld_196 (by decide) ?_
              have go_ := g
              refine g_callv (va_runV (As := [.int 2]) (rest := []) ⟨hx, hb, hml, hown, hts⟩ (r_X0_addWhole l dC dI L kd tys fr_121 H.size g.2.2.2.1 a0_ ma0_ ka0_ 2) (cwV 1 hts (gV_ t_1211 t_1213 t_17 t_190 t_1214) rfl rfl rfl (by decide +kernel) ⟨(Nat.le_of_ble_eq_true rfl), (Nat.le_of_ble_eq_true rfl)⟩) (pre3V g hK ma0_ ka0_ (by decide) (q := (RX0, TX0, 14)) rfl) rfl rfl hl.1 rfl (lv_room (Nat.le_of_ble_eq_true rfl)) dX0_readOld_197 ⟨(Nat.le_of_ble_eq_true rfl), (Nat.le_of_ble_eq_true rfl)⟩) g hK (by decide) (by decide) (fx' := [(7, 6, q2_, .int x_126), (7, 5, q2_, .ref a_119), (7, 4, q2_, .ref a_118), (8, 6, q0_, .int x_100), (8, 8, q0_, .int y0_), (7, 18, q2_, .int y_92), (0, 11, a0_, .int x_19), (0, 0, a0_, .ref q0_), (0, 1, a0_, .ref q1_), (0, 2, a0_, .ref q2_), (5, 1, q1_, .ref q3_)]) rfl (fun fr_132 H locs hp hMr_132 g => ?_)
              obtain ⟨x_133, h_134, hF_135⟩ := hp
              have hG_136 := cOK.frame hMr_132 go_.2.2.2.1 mq2_ kq2_ (by decide) (by decide) hG_123
              have hG_137 := dOK.frame hMr_132 go_.2.2.2.1 mq2_ kq2_ (by decide) (by decide) hG_122
              have hG_138 := jS.frame hMr_132 go_.2.2.2.1 mq2_ kq2_ (by decide) (by decide) hs_130
              have hG_139 := eOK.frame hMr_132 go_.2.2.2.1 ma0_ ka0_ (by decide) (by decide) hG_129
              have hG_140 := eJx.frame hMr_132 go_.2.2.2.1 ma0_ ka0_ (by decide) (by decide) hG_131
              have g := g.more hF_135
              subst hQ
              exact W.vret hx hb hr (fun t ht hW => ⟨⟨_, rfl, Or.inl ⟨hG_140, hG_136, hG_137, hG_138, hG_139, x_100, h_101, x_19, (bd_sub h_20 (by decide)), (g.fcts [5, 6, 8] rfl)⟩, q3_of g hK ht hW⟩, g.2.2.1.F ht⟩) g.2.2.1.2.2 dX0_readOld_200
            · have hG_141 := eJx.frame hMr_99 go_.2.2.2.1 ma0_ ka0_ (by decide) (by decide) hG_94
              have hG_142 := cOK.frame hMr_99 go_.2.2.2.1 mq2_ kq2_ (by decide) (by decide) hG_95
              have hG_143 := dOK.frame hMr_99 go_.2.2.2.1 mq2_ kq2_ (by decide) (by decide) hG_96
              have hG_144 := jS.frame hMr_99 go_.2.2.2.1 mq2_ kq2_ (by decide) (by decide) hG_97
              have hG_145 := eOK.frame hMr_99 go_.2.2.2.1 ma0_ ka0_ (by decide) (by decide) hG_98
              have g := g.more hF_105
              refine lv_aload_n hx hb dX0_readOld_176 rfl (lv_at hl 4 rfl) ?_
              refine g_getk (C := RX0) (T := TX0) (N := 14) hx hb hts (mc_ inX0) hown hK g rfl 2 (by decide) rfl (hts _ (List.mem_cons_of_mem _ t_375)) (fun _ h9 => h9) 6 rfl dX0_readOld_177 ?_
              refine lv_iconst (v := 4) hx hb dX0_readOld_180 (by decide) ?_
              refine lv_aload_n hx hb dX0_readOld_181 rfl (lv_at hl 4 rfl) ?_
              refine g_getk (C := RX0) (T := TX0) (N := 14) hx hb hts (mc_ inX0) hown hK g rfl 1 (by decide) rfl (hts _ (List.mem_cons_of_mem _ t_374)) (fun _ h9 => h9) 5 rfl dX0_readOld_182 ?_
              refine g_getk (C := RX5) (T := TX5) (N := 9) hx hb hts (mc_ inX5) hown hK g rfl 1 (by decide) rfl (hts _ (List.mem_cons_of_mem _ t_332)) (fun _ h9 => h9) 7 rfl dX0_readOld_185 ?_
              refine lv_iload_n hx hb dX0_readOld_188 rfl (lv_at hl 1 rfl) ?_
              have go_ := g
              refine g_calli (va_runV (As := [.int r_42]) (rest := [.int 4, .ref q2_]) ⟨hx, hb, hml, hown, hts⟩ (r_X9_spanOf l dC dI L kd tys fr_99 H.size g.2.2.2.1 q3_ mq3_ kq3_ r_42) (cwV 1 hts (gV_ t_1264 t_1265 t_1266 t_192 t_1267) rfl rfl rfl (by decide +kernel) ⟨(Nat.le_of_ble_eq_true rfl), (Nat.le_of_ble_eq_true rfl)⟩) (pre3V g hK mq3_ kq3_ (by decide) (q := (RX9, TX9, 13)) rfl) rfl rfl hl.1 rfl (lv_room (Nat.le_of_ble_eq_true rfl)) dX0_readOld_189 ⟨(Nat.le_of_ble_eq_true rfl), (Nat.le_of_ble_eq_true rfl)⟩) g hK (by decide) (by decide) (fx' := [(8, 6, q0_, .int 1201), (8, 8, q0_, .int x_103), (7, 18, q2_, .int y_92), (0, 11, a0_, .int x_19), (0, 0, a0_, .ref q0_), (0, 1, a0_, .ref q1_), (0, 2, a0_, .ref q2_), (5, 1, q1_, .ref q3_)]) rfl (fun r_146 fr_146 H locs hp hMr_146 g => ?_)
              obtain ⟨h_147, -⟩ := hp
              have hG_148 := eJx.frame hMr_146 go_.2.2.2.1 ma0_ ka0_ (by decide) (by decide) hG_141
              have hG_149 := cOK.frame hMr_146 go_.2.2.2.1 mq2_ kq2_ (by decide) (by decide) hG_142
              have hG_150 := dOK.frame hMr_146 go_.2.2.2.1 mq2_ kq2_ (by decide) (by decide) hG_143
              have hG_151 := jS.frame hMr_146 go_.2.2.2.1 mq2_ kq2_ (by decide) (by decide) hG_144
              have hG_152 := eOK.frame hMr_146 go_.2.2.2.1 ma0_ ka0_ (by decide) (by decide) hG_145
              obtain ⟨a_153, ma_153, ka_153, g⟩ := g_factr g mq2_ kq2_ (by decide) 4 rfl
              obtain ⟨a_154, ma_154, ka_154, g⟩ := g_factr g mq2_ kq2_ (by decide) 5 rfl
              obtain ⟨x_155, bx_155, g⟩ := g_facti g mq2_ kq2_ (by decide) 6 rfl
              have go_ := g
              refine g_callv (va_runV (As := [.int 4, .int r_146]) (rest := []) ⟨hx, hb, hml, hown, hts⟩ (r_X7_emitF l dC dI L kd tys fr_146 H.size g.2.2.2.1 q2_ mq2_ kq2_ a_153 ma_153 ka_153 a_154 ma_154 ka_154 x_155 bx_155 T_ hG_150 (4 : Int32) r_146 (g.fcts [2, 1, 0] rfl)) (cwV 2 hts (gV_ t_1203 t_1204 t_1205 t_191 t_1206) rfl rfl rfl (by decide +kernel) ⟨(Nat.le_of_ble_eq_true rfl), (Nat.le_of_ble_eq_true rfl)⟩) (pre3V g hK mq2_ kq2_ (by decide) (q := (RX7, TX7, 19)) rfl) rfl rfl hl.1 rfl (lv_room (Nat.le_of_ble_eq_true rfl)) dX0_readOld_192 ⟨(Nat.le_of_ble_eq_true rfl), (Nat.le_of_ble_eq_true rfl)⟩) g hK (by decide) (by decide) (fx' := [(7, 5, q2_, .ref a_154), (7, 4, q2_, .ref a_153), (8, 6, q0_, .int 1201), (8, 8, q0_, .int x_103), (7, 18, q2_, .int y_92), (0, 11, a0_, .int x_19), (0, 0, a0_, .ref q0_), (0, 1, a0_, .ref q1_), (0, 2, a0_, .ref q2_), (5, 1, q1_, .ref q3_)]) rfl (fun fr_156 H locs hp hMr_156 g => ?_)
              obtain ⟨hG_157, x_158, h_159, hF_160⟩ := hp
              have hG_161 := eOK.frame hMr_156 go_.2.2.2.1 ma0_ ka0_ (by decide) (by decide) hG_152
              have g := g.more hF_160
              refine lv_aload_n hx hb dX0_readOld_195 rfl (lv_at hl 4 rfl) ?_
              refine lv_iconst (v := 2) hx hb dX0_readOld_196 (by decide) ?_
              have go_ := g
              refine g_callv (va_runV (As := [.int 2]) (rest := []) ⟨hx, hb, hml, hown, hts⟩ (r_X0_addWhole l dC dI L kd tys fr_156 H.size g.2.2.2.1 a0_ ma0_ ka0_ 2) (cwV 1 hts (gV_ t_1211 t_1213 t_17 t_190 t_1214) rfl rfl rfl (by decide +kernel) ⟨(Nat.le_of_ble_eq_true rfl), (Nat.le_of_ble_eq_true rfl)⟩) (pre3V g hK ma0_ ka0_ (by decide) (q := (RX0, TX0, 14)) rfl) rfl rfl hl.1 rfl (lv_room (Nat.le_of_ble_eq_true rfl)) dX0_readOld_197 ⟨(Nat.le_of_ble_eq_true rfl), (Nat.le_of_ble_eq_true rfl)⟩) g hK (by decide) (by decide) (fx' := [(7, 6, q2_, .int x_158), (7, 5, q2_, .ref a_154), (7, 4, q2_, .ref a_153), (8, 6, q0_, .int 1201), (8, 8, q0_, .int x_103), (7, 18, q2_, .int y_92), (0, 11, a0_, .int x_19), (0, 0, a0_, .ref q0_), (0, 1, a0_, .ref q1_), (0, 2, a0_, .ref q2_), (5, 1, q1_, .ref q3_)]) rfl (fun fr_162 H locs hp hMr_162 g => ?_)
              obtain ⟨x_163, h_164, hF_165⟩ := hp
              have hG_166 := dOK.frame hMr_162 go_.2.2.2.1 mq2_ kq2_ (by decide) (by decide) hG_157
              have hG_167 := eOK.frame hMr_162 go_.2.2.2.1 ma0_ ka0_ (by decide) (by decide) hG_161
              have g := g.more hF_165
              have kb_1201 : bd 1201 1201 (1201 : Int32) := ⟨by decide, by decide⟩
              subst hQ
              exact W.vret hx hb hr (fun t ht hW => ⟨⟨_, rfl, Or.inr (⟨hG_166, hG_167, 1201, kb_1201, x_103, h_104, (g.fcts [5, 6] rfl)⟩), q3_of g hK ht hW⟩, g.2.2.1.F ht⟩) g.2.2.1.2.2 dX0_readOld_200
          · have fc_90 := eq_f c_90
            have b_168 : bd 91 91 r_84 := eqX fc_90 (bdT r_84) kb_91 (by decide)
            refine lv_iconst (v := 1) hx hb dX0_readOld_97 (by decide) ?_
            refine lv_goto (tgt := 102) hx hb dX0_readOld_98 (by decide) ?_
            refine lv_icmp_eq (tgt := 115) hx hb dX0_readOld_102 (by decide) (fun c_ => absurd c_ (by decide)) (fun c_ => ?_)
            refine lv_aload_n hx hb dX0_readOld_105 rfl (lv_at hl 4 rfl) ?_
            refine g_getk (C := RX0) (T := TX0) (N := 14) hx hb hts (mc_ inX0) hown hK g rfl 0 (by decide) rfl (hts _ (List.mem_cons_of_mem _ t_373)) (fun _ h9 => h9) 3 rfl dX0_readOld_106 ?_
            refine lv_iconst (v := 5) hx hb dX0_readOld_109 (by decide) ?_
            refine lv_iload_n hx hb dX0_readOld_110 rfl (lv_at hl 2 rfl) ?_
            have kb_5 : bd 5 5 (5 : Int32) := ⟨by decide, by decide⟩
            have go_ := g
            refine g_callv (va_runV (As := [.int 5, .int r_30]) (rest := []) ⟨hx, hb, hml, hown, hts⟩ (r_X8_fail l dC dI L kd tys fr_84 H.size g.2.2.2.1 q0_ mq0_ kq0_ 5 (bd_sub kb_5 (by decide)) r_30 y0_ by0_ (g.fcts [2] rfl)) (cwV 2 hts (gV_ t_1215 t_1107 t_1108 t_184 t_1109) rfl rfl rfl (by decide +kernel) ⟨(Nat.le_of_ble_eq_true rfl), (Nat.le_of_ble_eq_true rfl)⟩) (pre3V g hK mq0_ kq0_ (by decide) (q := (RX8, TX8, 10)) rfl) rfl rfl hl.1 rfl (lv_room (Nat.le_of_ble_eq_true rfl)) dX0_readOld_111 ⟨(Nat.le_of_ble_eq_true rfl), (Nat.le_of_ble_eq_true rfl)⟩) g hK (by decide) (by decide) (fx' := [(0, 11, a0_, .int x_19), (0, 0, a0_, .ref q0_), (0, 1, a0_, .ref q1_), (0, 2, a0_, .ref q2_), (5, 1, q1_, .ref q3_)]) rfl (fun fr_169 H locs hp hMr_169 g => ?_)
            obtain ⟨x_170, h_171, hF_172⟩ := hp
            have hG_173 := eJx.frame hMr_169 go_.2.2.2.1 ma0_ ka0_ (by decide) (by decide) hG_85
            have hG_174 := cOK.frame hMr_169 go_.2.2.2.1 mq2_ kq2_ (by decide) (by decide) hG_86
            have hG_175 := dOK.frame hMr_169 go_.2.2.2.1 mq2_ kq2_ (by decide) (by decide) hG_87
            have hG_176 := jS.frame hMr_169 go_.2.2.2.1 mq2_ kq2_ (by decide) (by decide) hG_88
            have hG_177 := eOK.frame hMr_169 go_.2.2.2.1 ma0_ ka0_ (by decide) (by decide) hG_89
            have g := g.more hF_172
            have kb_1201 : bd 1201 1201 (1201 : Int32) := ⟨by decide, by decide⟩
            subst hQ
            exact W.vret hx hb hr (fun t ht hW => ⟨⟨_, rfl, Or.inr (⟨hG_175, hG_177, 1201, kb_1201, x_170, h_171, (g.fcts [0, 1] rfl)⟩), q3_of g hK ht hW⟩, g.2.2.1.F ht⟩) g.2.2.1.2.2 dX0_readOld_114
      · have hG_178 := eJx.frame hMr_60 go_.2.2.2.1 ma0_ ka0_ (by decide) (by decide) hG_53
        have hG_179 := cOK.frame hMr_60 go_.2.2.2.1 mq2_ kq2_ (by decide) (by decide) hG_54
        have hG_180 := dOK.frame hMr_60 go_.2.2.2.1 mq2_ kq2_ (by decide) (by decide) hG_55
        have hG_181 := jS.frame hMr_60 go_.2.2.2.1 mq2_ kq2_ (by decide) (by decide) hG_56
        have hG_182 := eOK.frame hMr_60 go_.2.2.2.1 ma0_ ka0_ (by decide) (by decide) hG_57
        obtain rfl : r_60 = 1 := h_62
        have b_183 : bd 0 9 r_42 := eqX rfl b_59 h_63 (by decide)
        have g := g.more hF_66
        refine lv_istore (lv' := [(4, .int 1), (3, .int r_42), (2, .int r_30), (1, .int r_1), (0, .ref a0_)]) hx hb dX0_readOld_75 hl (by decide) rfl (fun ls hl => ?_)
        refine lv_iload_n hx hb dX0_readOld_77 rfl (lv_at hl 1 rfl) ?_
        refine lv_bipush (v := 16) hx hb dX0_readOld_78 (by decide) ?_
        have kb_16 : bd 16 16 (16 : Int32) := ⟨by decide, by decide⟩
        refine lv_icmp_ge (tgt := 105) hx hb dX0_readOld_80 (by decide) (fun c_184 => ?_) (fun c_184 => ?_)
        · have fc_184 := le_f c_184
          have b_185 : bd 16 9 (16 : Int32) := leL fc_184 kb_16 b_183 (by decide)
          exact bd_no (eqX rfl b_185 kb_16 (lo := 16) (hi := 9) (by decide)) (by decide)
        · have fc_184 := nle_f c_184
          refine lv_iload hx hb dX0_readOld_83 (lv_at hl 0 rfl) ?_
          refine lv_aload_n hx hb dX0_readOld_85 rfl (lv_at hl 4 rfl) ?_
          refine g_getk (C := RX0) (T := TX0) (N := 14) hx hb hts (mc_ inX0) hown hK g rfl 0 (by decide) rfl (hts _ (List.mem_cons_of_mem _ t_373)) (fun _ h9 => h9) 4 rfl dX0_readOld_86 ?_
          have go_ := g
          refine g_calli (va_runV (As := []) (rest := [.int 1]) ⟨hx, hb, hml, hown, hts⟩ (r_X8_kind l dC dI L kd tys fr_60 H.size g.2.2.2.1 q0_ mq0_ kq0_) (cwV 0 hts (gV_ t_1186 t_1119 t_1120 t_184 t_1121) rfl rfl rfl (by decide +kernel) ⟨(Nat.le_of_ble_eq_true rfl), (Nat.le_of_ble_eq_true rfl)⟩) (pre3V g hK mq0_ kq0_ (by decide) (q := (RX8, TX8, 10)) rfl) rfl rfl hl.1 rfl (lv_room (Nat.le_of_ble_eq_true rfl)) dX0_readOld_89 ⟨(Nat.le_of_ble_eq_true rfl), (Nat.le_of_ble_eq_true rfl)⟩) g hK (by decide) (by decide) (fx' := [(9, 2, q3_, .int x_64), (8, 6, q0_, .int x_50), (0, 11, a0_, .int x_19), (8, 8, q0_, .int y0_), (0, 0, a0_, .ref q0_), (0, 1, a0_, .ref q1_), (0, 2, a0_, .ref q2_), (5, 1, q1_, .ref q3_)]) rfl (fun r_186 fr_186 H locs hp hMr_186 g => ?_)
          have hG_187 := eJx.frame hMr_186 go_.2.2.2.1 ma0_ ka0_ (by decide) (by decide) hG_178
          have hG_188 := cOK.frame hMr_186 go_.2.2.2.1 mq2_ kq2_ (by decide) (by decide) hG_179
          have hG_189 := dOK.frame hMr_186 go_.2.2.2.1 mq2_ kq2_ (by decide) (by decide) hG_180
          have hG_190 := jS.frame hMr_186 go_.2.2.2.1 mq2_ kq2_ (by decide) (by decide) hG_181
          have hG_191 := eOK.frame hMr_186 go_.2.2.2.1 ma0_ ka0_ (by decide) (by decide) hG_182
          refine lv_bipush (v := 91) hx hb dX0_readOld_92 (by decide) ?_
          have kb_91 : bd 91 91 (91 : Int32) := ⟨by decide, by decide⟩
          refine lv_icmp_ne (tgt := 101) hx hb dX0_readOld_94 (by decide) (fun c_192 => ?_) (fun c_192 => ?_)
          · have fc_192 := neq_f c_192
            refine lv_iconst (v := 0) hx hb dX0_readOld_101 (by decide) ?_
            refine lv_icmp_eq (tgt := 115) hx hb dX0_readOld_102 (by decide) (fun c_ => absurd c_ (by decide)) (fun c_ => ?_)
            refine lv_aload_n hx hb dX0_readOld_105 rfl (lv_at hl 4 rfl) ?_
            refine g_getk (C := RX0) (T := TX0) (N := 14) hx hb hts (mc_ inX0) hown hK g rfl 0 (by decide) rfl (hts _ (List.mem_cons_of_mem _ t_373)) (fun _ h9 => h9) 4 rfl dX0_readOld_106 ?_
            refine lv_iconst (v := 5) hx hb dX0_readOld_109 (by decide) ?_
            refine lv_iload_n hx hb dX0_readOld_110 rfl (lv_at hl 2 rfl) ?_
            have kb_5 : bd 5 5 (5 : Int32) := ⟨by decide, by decide⟩
            have go_ := g
            refine g_callv (va_runV (As := [.int 5, .int r_30]) (rest := []) ⟨hx, hb, hml, hown, hts⟩ (r_X8_fail l dC dI L kd tys fr_186 H.size g.2.2.2.1 q0_ mq0_ kq0_ 5 (bd_sub kb_5 (by decide)) r_30 y0_ by0_ (g.fcts [3] rfl)) (cwV 2 hts (gV_ t_1215 t_1107 t_1108 t_184 t_1109) rfl rfl rfl (by decide +kernel) ⟨(Nat.le_of_ble_eq_true rfl), (Nat.le_of_ble_eq_true rfl)⟩) (pre3V g hK mq0_ kq0_ (by decide) (q := (RX8, TX8, 10)) rfl) rfl rfl hl.1 rfl (lv_room (Nat.le_of_ble_eq_true rfl)) dX0_readOld_111 ⟨(Nat.le_of_ble_eq_true rfl), (Nat.le_of_ble_eq_true rfl)⟩) g hK (by decide) (by decide) (fx' := [(9, 2, q3_, .int x_64), (0, 11, a0_, .int x_19), (0, 0, a0_, .ref q0_), (0, 1, a0_, .ref q1_), (0, 2, a0_, .ref q2_), (5, 1, q1_, .ref q3_)]) rfl (fun fr_193 H locs hp hMr_193 g => ?_)
            obtain ⟨x_194, h_195, hF_196⟩ := hp
            have hG_197 := eJx.frame hMr_193 go_.2.2.2.1 ma0_ ka0_ (by decide) (by decide) hG_187
            have hG_198 := cOK.frame hMr_193 go_.2.2.2.1 mq2_ kq2_ (by decide) (by decide) hG_188
            have hG_199 := dOK.frame hMr_193 go_.2.2.2.1 mq2_ kq2_ (by decide) (by decide) hG_189
            have hG_200 := jS.frame hMr_193 go_.2.2.2.1 mq2_ kq2_ (by decide) (by decide) hG_190
            have hG_201 := eOK.frame hMr_193 go_.2.2.2.1 ma0_ ka0_ (by decide) (by decide) hG_191
            have g := g.more hF_196
            have kb_1201 : bd 1201 1201 (1201 : Int32) := ⟨by decide, by decide⟩
            subst hQ
            exact W.vret hx hb hr (fun t ht hW => ⟨⟨_, rfl, Or.inr (⟨hG_199, hG_201, 1201, kb_1201, x_194, h_195, (g.fcts [0, 1] rfl)⟩), q3_of g hK ht hW⟩, g.2.2.1.F ht⟩) g.2.2.1.2.2 dX0_readOld_114
          · have fc_192 := eq_f c_192
            have b_202 : bd 91 91 r_186 := eqX fc_192 (bdT r_186) kb_91 (by decide)
            refine lv_iconst (v := 1) hx hb dX0_readOld_97 (by decide) ?_
            refine lv_goto (tgt := 102) hx hb dX0_readOld_98 (by decide) ?_
            refine lv_icmp_eq (tgt := 115) hx hb dX0_readOld_102 (by decide) (fun c_ => ?_) (fun c_ => absurd (by decide) c_)
            refine lv_aload_n hx hb dX0_readOld_115 rfl (lv_at hl 4 rfl) ?_
            refine g_getk (C := RX0) (T := TX0) (N := 14) hx hb hts (mc_ inX0) hown hK g rfl 2 (by decide) rfl (hts _ (List.mem_cons_of_mem _ t_375)) (fun _ h9 => h9) 6 rfl dX0_readOld_116 ?_
            refine lv_dup hx hb dX0_readOld_119 rfl ?_
            refine g_geti (C := RX7) (T := TX7) (N := 19) hx hb hts (mc_ inX7) hown hK g mq2_ kq2_ (by decide) rfl 18 (by decide) rfl (hts _ (List.mem_cons_of_mem _ t_681)) (fun _ h9 => h9) rfl dX0_readOld_120 (fun x_203 bx_203 g => ?_)
            refine lv_iconst (v := 2) hx hb dX0_readOld_123 (by decide) ?_
            have kb_2 : bd 2 2 (2 : Int32) := ⟨by decide, by decide⟩
            refine lv_iadd hx hb dX0_readOld_124 ?_
            refine lv_topi (fun y_204 ey_204 => ?_)
            have go_ := g
            refine g_put (C := RX7) (T := TX7) (N := 19) hx hb hts (mc_ inX7) tyX7 tyX7_ok nmX7 hown hK g mq2_ kq2_ (by decide) rfl 18 (by decide) (hts _ (List.mem_cons_of_mem _ t_681)) (fun _ h9 => h9) rfl rfl (okV_i (bdT y_204)) rfl rfl (by decide) (Or.inr (Or.inl (by decide))) (fx' := [(9, 2, q3_, .int x_64), (8, 6, q0_, .int x_50), (0, 11, a0_, .int x_19), (8, 8, q0_, .int y0_), (0, 0, a0_, .ref q0_), (0, 1, a0_, .ref q1_), (0, 2, a0_, .ref q2_), (5, 1, q1_, .ref q3_)]) rfl dX0_readOld_125 (fun f H locs hM_205 g => ?_)
            have hG_206 := eJx.frame hM_205 go_.2.2.2.1 ma0_ ka0_ (by decide) (by decide) hG_187
            have hG_207 := cOK.frame hM_205 go_.2.2.2.1 mq2_ kq2_ (by decide) (by decide) hG_188
            have hG_208 := dOK.frame hM_205 go_.2.2.2.1 mq2_ kq2_ (by decide) (by decide) hG_189
            have hG_209 := jS.frame hM_205 go_.2.2.2.1 mq2_ kq2_ (by decide) (by decide) hG_190
            have hG_210 := eOK.frame hM_205 go_.2.2.2.1 ma0_ ka0_ (by decide) (by decide) hG_191
            refine lv_iload hx hb dX0_readOld_128 (lv_at hl 0 rfl) ?_
            refine lv_if_eq (tgt := 167) hx hb dX0_readOld_130 (by decide) (fun c_ => absurd c_ (by decide)) (fun c_ => ?_)
            refine lv_aload_n hx hb dX0_readOld_133 rfl (lv_at hl 4 rfl) ?_
            refine lv_dup hx hb dX0_readOld_134 rfl ?_
            refine g_getk (C := RX0) (T := TX0) (N := 14) hx hb hts (mc_ inX0) hown hK g rfl 11 (by decide) rfl (hts _ (List.mem_cons_of_mem _ t_384)) (fun _ h9 => h9) 3 rfl dX0_readOld_135 ?_
            refine lv_iconst (v := 1) hx hb dX0_readOld_138 (by decide) ?_
            have kb_1 : bd 1 1 (1 : Int32) := ⟨by decide, by decide⟩
            refine lv_iadd hx hb dX0_readOld_139 ?_
            refine lv_topi (fun y_211 ey_211 => ?_)
            have ty_211 := add_bd ey_211 h_20 kb_1 (by decide)
            have b_212 : bd (-2147483647) 40 y_211 := add_rg ty_211 h_20 kb_1 (by decide)
            have go_ := g
            refine g_put (C := RX0) (T := TX0) (N := 14) hx hb hts (mc_ inX0) tyX0 tyX0_ok nmX0 hown hK g ma0_ ka0_ (by decide) rfl 11 (by decide) (hts _ (List.mem_cons_of_mem _ t_384)) (fun _ h9 => h9) rfl rfl (okV_i (bd_sub b_212 (by decide))) rfl rfl (by decide) (Or.inr (Or.inl (by decide))) (fx' := [(7, 18, q2_, .int y_204), (9, 2, q3_, .int x_64), (8, 6, q0_, .int x_50), (8, 8, q0_, .int y0_), (0, 0, a0_, .ref q0_), (0, 1, a0_, .ref q1_), (0, 2, a0_, .ref q2_), (5, 1, q1_, .ref q3_)]) rfl dX0_readOld_140 (fun f H locs hM_213 g => ?_)
            have hG_214 := eJx.frame hM_213 go_.2.2.2.1 ma0_ ka0_ (by decide) (by decide) hG_206
            have hG_215 := cOK.frame hM_213 go_.2.2.2.1 mq2_ kq2_ (by decide) (by decide) hG_207
            have hG_216 := dOK.frame hM_213 go_.2.2.2.1 mq2_ kq2_ (by decide) (by decide) hG_208
            have hG_217 := jS.frame hM_213 go_.2.2.2.1 mq2_ kq2_ (by decide) (by decide) hG_209
            have hG_218 := eOK.frame hM_213 go_.2.2.2.1 ma0_ ka0_ (by decide) (by decide) hG_210
            refine lv_aload_n hx hb dX0_readOld_143 rfl (lv_at hl 4 rfl) ?_
            refine lv_iconst (v := 5) hx hb dX0_readOld_144 (by decide) ?_
            refine lv_iload_n hx hb dX0_readOld_145 rfl (lv_at hl 2 rfl) ?_
            refine lv_iload_n hx hb dX0_readOld_146 rfl (lv_at hl 1 rfl) ?_
            have kb_5 : bd 5 5 (5 : Int32) := ⟨by decide, by decide⟩
            have go_ := g
            refine g_callv (va_runV (As := [.int 5, .int r_30, .int r_42]) (rest := []) ⟨hx, hb, hml, hown, hts⟩ (r_X0_openIndex_2 l dC dI L kd tys f H.size g.2.2.2.1 a0_ ma0_ ka0_ 5 kb_5 r_30 r_42 b_183 q0_ mq0_ kq0_ q1_ mq1_ kq1_ q2_ mq2_ kq2_ q3_ mq3_ kq3_ y_211 b_212 x_64 h_65 y0_ by0_ hG_214 hG_218 (g.fcts [5, 6, 7, 8, 0, 2, 4] rfl)) (cwV 3 hts (gV_ t_1260 t_1262 t_24 t_190 t_1263) rfl rfl rfl (by decide +kernel) ⟨(Nat.le_of_ble_eq_true rfl), (Nat.le_of_ble_eq_true rfl)⟩) (pre3V g hK ma0_ ka0_ (by decide) (q := (RX0, TX0, 14)) rfl) rfl rfl hl.1 rfl (lv_room (Nat.le_of_ble_eq_true rfl)) dX0_readOld_147 ⟨(Nat.le_of_ble_eq_true rfl), (Nat.le_of_ble_eq_true rfl)⟩) g hK (by decide) (by decide) (fx' := [(7, 18, q2_, .int y_204), (9, 2, q3_, .int x_64), (0, 0, a0_, .ref q0_), (0, 1, a0_, .ref q1_), (0, 2, a0_, .ref q2_), (5, 1, q1_, .ref q3_)]) rfl (fun fr_219 H locs hp hMr_219 g => ?_)
            rcases hp with ⟨hG_220, hG_221, h_222, x_223, h_224, x_225, h_226, x_227, h_228, hF_229⟩ | ⟨hG_230, h_231, x_232, h_233, x_234, h_235, x_236, h_237, hF_238⟩
            · have hG_239 := cOK.frame hMr_219 go_.2.2.2.1 mq2_ kq2_ (by decide) (by decide) hG_215
              have hG_240 := dOK.frame hMr_219 go_.2.2.2.1 mq2_ kq2_ (by decide) (by decide) hG_216
              have hG_241 := jS.frame hMr_219 go_.2.2.2.1 mq2_ kq2_ (by decide) (by decide) hG_217
              have b_242 : bd (-2147483647) 39 y_211 := eqX rfl b_212 h_222 (by decide)
              have b_243 : bd (-2147483648) 38 x_19 := add_inv ty_211 b_242 h_20 kb_1 (by decide)
              have g := g.more hF_229
              refine lv_aload_n hx hb dX0_readOld_150 rfl (lv_at hl 4 rfl) ?_
              refine g_getr (K := 114) (C := RX0) (T := TX0) (N := 14) hx hb hts (mc_ inX0) hown hK g ma0_ ka0_ (by decide) rfl 7 (by decide) rfl (hts _ (List.mem_cons_of_mem _ t_380)) (fun _ h9 => h9) rfl dX0_readOld_151 (fun a_244 ma_244 ka_244 g => ?_)
              refine lv_aload_n hx hb dX0_readOld_154 rfl (lv_at hl 4 rfl) ?_
              refine g_getk (C := RX0) (T := TX0) (N := 14) hx hb hts (mc_ inX0) hown hK g rfl 8 (by decide) rfl (hts _ (List.mem_cons_of_mem _ t_381)) (fun _ h9 => h9) 3 rfl dX0_readOld_155 ?_
              refine lv_iconst (v := 1) hx hb dX0_readOld_158 (by decide) ?_
              refine lv_isub hx hb dX0_readOld_159 ?_
              refine lv_topi (fun y_245 ey_245 => ?_)
              have ty_245 := sub_bd ey_245 h_228 kb_1 (by decide)
              have b_246 : bd 0 299 y_245 := sub_rg ty_245 h_228 kb_1 (by decide)
              refine lv_iconst (v := 0) hx hb dX0_readOld_160 (by decide) ?_
              have kb_0 : bd 0 0 (0 : Int32) := ⟨by decide, by decide⟩
              refine va_mmax hx hb (hml.trans hl.1.symm) hown (hts _ (List.mem_cons_of_mem _ t_1194)) (hts _ (List.mem_cons_of_mem _ t_1041)) (hts _ (List.mem_cons_of_mem _ t_204)) (hts _ (List.mem_cons_of_mem _ t_1042)) (Nat.le_of_ble_eq_true rfl) (Nat.le_of_ble_eq_true rfl) (Nat.le_of_ble_eq_true rfl) (Nat.le_of_ble_eq_true rfl) dX0_readOld_161 ?_
              refine lv_topi (fun y_247 ey_247 => ?_)
              have ty_247 : y_247.toInt = max y_245.toInt (0 : Int32).toInt := by rw [ey_247]; exact mmax_ok _ _
              have b_248 : bd 0 299 y_247 := max_rg ty_247 b_246 kb_0 (by decide)
              refine lv_iload_n hx hb dX0_readOld_164 rfl (lv_at hl 3 rfl) ?_
              have go_ := g
              refine g_iast hx hb hK g ma_244 ka_244 (by decide) rfl (in_bd b_248 (by decide)) (bdT r_1) (by decide) dX0_readOld_165 (fun f H locs hM_249 g => ?_)
              have hG_250 := eJx.frame hM_249 go_.2.2.2.1 ma0_ ka0_ (by decide) (by decide) hG_220
              have hG_251 := cOK.frame hM_249 go_.2.2.2.1 mq2_ kq2_ (by decide) (by decide) hG_239
              have hG_252 := dOK.frame hM_249 go_.2.2.2.1 mq2_ kq2_ (by decide) (by decide) hG_240
              have hG_253 := jS.frame hM_249 go_.2.2.2.1 mq2_ kq2_ (by decide) (by decide) hG_241
              have hG_254 := eOK.frame hM_249 go_.2.2.2.1 ma0_ ka0_ (by decide) (by decide) hG_221
              subst hQ
              exact W.vret hx hb hr (fun t ht hW => ⟨⟨_, rfl, Or.inl ⟨hG_250, hG_251, hG_252, hG_253, hG_254, x_223, h_224, x_225, (bd_sub h_226 (by decide)), (g.fcts [1, 4, 2] rfl)⟩, q3_of g hK ht hW⟩, g.2.2.1.F ht⟩) g.2.2.1.2.2 dX0_readOld_166
            · have hG_255 := cOK.frame hMr_219 go_.2.2.2.1 mq2_ kq2_ (by decide) (by decide) hG_215
              have hG_256 := dOK.frame hMr_219 go_.2.2.2.1 mq2_ kq2_ (by decide) (by decide) hG_216
              have hG_257 := jS.frame hMr_219 go_.2.2.2.1 mq2_ kq2_ (by decide) (by decide) hG_217
              have b_258 : bd 40 40 y_211 := eqX rfl b_212 h_231 (by decide)
              have b_259 : bd 39 39 x_19 := add_inv ty_211 b_258 h_20 kb_1 (by decide)
              have g := g.more hF_238
              refine lv_aload_n hx hb dX0_readOld_150 rfl (lv_at hl 4 rfl) ?_
              refine g_getr (K := 114) (C := RX0) (T := TX0) (N := 14) hx hb hts (mc_ inX0) hown hK g ma0_ ka0_ (by decide) rfl 7 (by decide) rfl (hts _ (List.mem_cons_of_mem _ t_380)) (fun _ h9 => h9) rfl dX0_readOld_151 (fun a_260 ma_260 ka_260 g => ?_)
              refine lv_aload_n hx hb dX0_readOld_154 rfl (lv_at hl 4 rfl) ?_
              refine g_getk (C := RX0) (T := TX0) (N := 14) hx hb hts (mc_ inX0) hown hK g rfl 8 (by decide) rfl (hts _ (List.mem_cons_of_mem _ t_381)) (fun _ h9 => h9) 2 rfl dX0_readOld_155 ?_
              refine lv_iconst (v := 1) hx hb dX0_readOld_158 (by decide) ?_
              refine lv_isub hx hb dX0_readOld_159 ?_
              refine lv_topi (fun y_261 ey_261 => ?_)
              have ty_261 := sub_bd ey_261 h_235 kb_1 (by decide)
              have b_262 : bd 0 299 y_261 := sub_rg ty_261 h_235 kb_1 (by decide)
              refine lv_iconst (v := 0) hx hb dX0_readOld_160 (by decide) ?_
              have kb_0 : bd 0 0 (0 : Int32) := ⟨by decide, by decide⟩
              refine va_mmax hx hb (hml.trans hl.1.symm) hown (hts _ (List.mem_cons_of_mem _ t_1194)) (hts _ (List.mem_cons_of_mem _ t_1041)) (hts _ (List.mem_cons_of_mem _ t_204)) (hts _ (List.mem_cons_of_mem _ t_1042)) (Nat.le_of_ble_eq_true rfl) (Nat.le_of_ble_eq_true rfl) (Nat.le_of_ble_eq_true rfl) (Nat.le_of_ble_eq_true rfl) dX0_readOld_161 ?_
              refine lv_topi (fun y_263 ey_263 => ?_)
              have ty_263 : y_263.toInt = max y_261.toInt (0 : Int32).toInt := by rw [ey_263]; exact mmax_ok _ _
              have b_264 : bd 0 299 y_263 := max_rg ty_263 b_262 kb_0 (by decide)
              refine lv_iload_n hx hb dX0_readOld_164 rfl (lv_at hl 3 rfl) ?_
              have go_ := g
              refine g_iast hx hb hK g ma_260 ka_260 (by decide) rfl (in_bd b_264 (by decide)) (bdT r_1) (by decide) dX0_readOld_165 (fun f H locs hM_265 g => ?_)
              have hG_266 := cOK.frame hM_265 go_.2.2.2.1 mq2_ kq2_ (by decide) (by decide) hG_255
              have hG_267 := dOK.frame hM_265 go_.2.2.2.1 mq2_ kq2_ (by decide) (by decide) hG_256
              have hG_268 := jS.frame hM_265 go_.2.2.2.1 mq2_ kq2_ (by decide) (by decide) hG_257
              have hG_269 := eOK.frame hM_265 go_.2.2.2.1 ma0_ ka0_ (by decide) (by decide) hG_230
              have kb_1201 : bd 1201 1201 (1201 : Int32) := ⟨by decide, by decide⟩
              subst hQ
              exact W.vret hx hb hr (fun t ht hW => ⟨⟨_, rfl, Or.inr (⟨hG_267, hG_269, 1201, kb_1201, x_236, h_237, (g.fcts [3, 4] rfl)⟩), q3_of g hK ht hW⟩, g.2.2.1.F ht⟩) g.2.2.1.2.2 dX0_readOld_166
    · have fc_58 := eq_f c_58
      have b_270 : bd (-1) (-1) r_42 := eqX fc_58 h_43 kb_m1 (by decide)
      refine lv_aload_n hx hb dX0_readOld_54 rfl (lv_at hl 3 rfl) ?_
      refine g_getk (C := RX0) (T := TX0) (N := 14) hx hb hts (mc_ inX0) hown hK g rfl 0 (by decide) rfl (hts _ (List.mem_cons_of_mem _ t_373)) (fun _ h9 => h9) 3 rfl dX0_readOld_55 ?_
      refine lv_iconst (v := 2) hx hb dX0_readOld_58 (by decide) ?_
      refine lv_iload_n hx hb dX0_readOld_59 rfl (lv_at hl 1 rfl) ?_
      have kb_2 : bd 2 2 (2 : Int32) := ⟨by decide, by decide⟩
      have go_ := g
      refine g_callv (va_runV (As := [.int 2, .int r_30]) (rest := []) ⟨hx, hb, hml, hown, hts⟩ (r_X8_fail l dC dI L kd tys fr_49 H.size g.2.2.2.1 q0_ mq0_ kq0_ 2 (bd_sub kb_2 (by decide)) r_30 y0_ by0_ (g.fcts [2] rfl)) (cwV 2 hts (gV_ t_1215 t_1107 t_1108 t_184 t_1109) rfl rfl rfl (by decide +kernel) ⟨(Nat.le_of_ble_eq_true rfl), (Nat.le_of_ble_eq_true rfl)⟩) (pre3V g hK mq0_ kq0_ (by decide) (q := (RX8, TX8, 10)) rfl) rfl rfl hl.1 rfl (lv_room (Nat.le_of_ble_eq_true rfl)) dX0_readOld_60 ⟨(Nat.le_of_ble_eq_true rfl), (Nat.le_of_ble_eq_true rfl)⟩) g hK (by decide) (by decide) (fx' := [(0, 11, a0_, .int x_19), (0, 0, a0_, .ref q0_), (0, 1, a0_, .ref q1_), (0, 2, a0_, .ref q2_), (5, 1, q1_, .ref q3_)]) rfl (fun fr_271 H locs hp hMr_271 g => ?_)
      obtain ⟨x_272, h_273, hF_274⟩ := hp
      have hG_275 := eJx.frame hMr_271 go_.2.2.2.1 ma0_ ka0_ (by decide) (by decide) hG_53
      have hG_276 := cOK.frame hMr_271 go_.2.2.2.1 mq2_ kq2_ (by decide) (by decide) hG_54
      have hG_277 := dOK.frame hMr_271 go_.2.2.2.1 mq2_ kq2_ (by decide) (by decide) hG_55
      have hG_278 := jS.frame hMr_271 go_.2.2.2.1 mq2_ kq2_ (by decide) (by decide) hG_56
      have hG_279 := eOK.frame hMr_271 go_.2.2.2.1 ma0_ ka0_ (by decide) (by decide) hG_57
      have g := g.more hF_274
      have kb_1201 : bd 1201 1201 (1201 : Int32) := ⟨by decide, by decide⟩
      subst hQ
      exact W.vret hx hb hr (fun t ht hW => ⟨⟨_, rfl, Or.inr (⟨hG_277, hG_279, 1201, kb_1201, x_272, h_273, (g.fcts [0, 1] rfl)⟩), q3_of g hK ht hW⟩, g.2.2.1.F ht⟩) g.2.2.1.2.2 dX0_readOld_63
  · have hG_280 := eJx.frame hMr_16 go_.2.2.2.1 ma0_ ka0_ (by decide) (by decide) hG_11
    have hG_281 := cOK.frame hMr_16 go_.2.2.2.1 mq2_ kq2_ (by decide) (by decide) hG_12
    have hG_282 := dOK.frame hMr_16 go_.2.2.2.1 mq2_ kq2_ (by decide) (by decide) hG_13
    have hG_283 := jS.frame hMr_16 go_.2.2.2.1 mq2_ kq2_ (by decide) (by decide) hG_14
    have hG_284 := eOK.frame hMr_16 go_.2.2.2.1 ma0_ ka0_ (by decide) (by decide) hG_15
    have g := g.more hF_24
    refine lv_aload_n hx hb dX0_readOld_19 rfl (lv_at hl 1 rfl) ?_
    refine g_getk (C := RX0) (T := TX0) (N := 14) hx hb hts (mc_ inX0) hown hK g rfl 0 (by decide) rfl (hts _ (List.mem_cons_of_mem _ t_373)) (fun _ h9 => h9) 2 rfl dX0_readOld_20 ?_
    have go_ := g
    refine g_calli (va_runV (As := []) (rest := []) ⟨hx, hb, hml, hown, hts⟩ (r_X8_place l dC dI L kd tys fr_16 H.size g.2.2.2.1 q0_ mq0_ kq0_) (cwV 0 hts (gV_ t_1220 t_1111 t_1112 t_184 t_1113) rfl rfl rfl (by decide +kernel) ⟨(Nat.le_of_ble_eq_true rfl), (Nat.le_of_ble_eq_true rfl)⟩) (pre3V g hK mq0_ kq0_ (by decide) (q := (RX8, TX8, 10)) rfl) rfl rfl hl.1 rfl (lv_room (Nat.le_of_ble_eq_true rfl)) dX0_readOld_23 ⟨(Nat.le_of_ble_eq_true rfl), (Nat.le_of_ble_eq_true rfl)⟩) g hK (by decide) (by decide) (fx' := [(8, 6, q0_, .int 1201), (8, 8, q0_, .int x_22), (0, 0, a0_, .ref q0_), (0, 1, a0_, .ref q1_), (0, 2, a0_, .ref q2_), (5, 1, q1_, .ref q3_)]) rfl (fun r_285 fr_285 H locs hp hMr_285 g => ?_)
    have hG_286 := eJx.frame hMr_285 go_.2.2.2.1 ma0_ ka0_ (by decide) (by decide) hG_280
    have hG_287 := cOK.frame hMr_285 go_.2.2.2.1 mq2_ kq2_ (by decide) (by decide) hG_281
    have hG_288 := dOK.frame hMr_285 go_.2.2.2.1 mq2_ kq2_ (by decide) (by decide) hG_282
    have hG_289 := jS.frame hMr_285 go_.2.2.2.1 mq2_ kq2_ (by decide) (by decide) hG_283
    have hG_290 := eOK.frame hMr_285 go_.2.2.2.1 ma0_ ka0_ (by decide) (by decide) hG_284
    refine lv_istore_n (lv' := [(2, .int r_285), (1, .int r_1), (0, .ref a0_)]) hx hb dX0_readOld_26 rfl hl (by decide) rfl (fun ls hl => ?_)
    refine lv_aload_n hx hb dX0_readOld_27 rfl (lv_at hl 2 rfl) ?_
    refine g_getk (C := RX0) (T := TX0) (N := 14) hx hb hts (mc_ inX0) hown hK g rfl 1 (by decide) rfl (hts _ (List.mem_cons_of_mem _ t_374)) (fun _ h9 => h9) 3 rfl dX0_readOld_28 ?_
    refine lv_aload_n hx hb dX0_readOld_31 rfl (lv_at hl 2 rfl) ?_
    refine g_getk (C := RX0) (T := TX0) (N := 14) hx hb hts (mc_ inX0) hown hK g rfl 0 (by decide) rfl (hts _ (List.mem_cons_of_mem _ t_373)) (fun _ h9 => h9) 2 rfl dX0_readOld_32 ?_
    have go_ := g
    refine g_calll (va_runV (As := []) (rest := [.ref q1_]) ⟨hx, hb, hml, hown, hts⟩ (r_X8_value l dC dI L kd tys fr_285 H.size g.2.2.2.1 q0_ mq0_ kq0_) (cwV 0 hts (gV_ t_1238 t_1115 t_1116 t_184 t_1117) rfl rfl rfl (by decide +kernel) ⟨(Nat.le_of_ble_eq_true rfl), (Nat.le_of_ble_eq_true rfl)⟩) (pre3V g hK mq0_ kq0_ (by decide) (q := (RX8, TX8, 10)) rfl) rfl rfl hl.1 rfl (lv_room (Nat.le_of_ble_eq_true rfl)) dX0_readOld_35 ⟨(Nat.le_of_ble_eq_true rfl), (Nat.le_of_ble_eq_true rfl)⟩) g hK (by decide) (by decide) (fx' := [(8, 6, q0_, .int 1201), (8, 8, q0_, .int x_22), (0, 0, a0_, .ref q0_), (0, 1, a0_, .ref q1_), (0, 2, a0_, .ref q2_), (5, 1, q1_, .ref q3_)]) rfl (fun r_291 fr_291 H locs hp hMr_291 g => ?_)
    have hG_292 := eJx.frame hMr_291 go_.2.2.2.1 ma0_ ka0_ (by decide) (by decide) hG_286
    have hG_293 := cOK.frame hMr_291 go_.2.2.2.1 mq2_ kq2_ (by decide) (by decide) hG_287
    have hG_294 := dOK.frame hMr_291 go_.2.2.2.1 mq2_ kq2_ (by decide) (by decide) hG_288
    have hG_295 := jS.frame hMr_291 go_.2.2.2.1 mq2_ kq2_ (by decide) (by decide) hG_289
    have hG_296 := eOK.frame hMr_291 go_.2.2.2.1 ma0_ ka0_ (by decide) (by decide) hG_290
    have go_ := g
    refine g_calli (va_runV (As := [.long r_291]) (rest := []) ⟨hx, hb, hml, hown, hts⟩ (r_X5_placeNamed l dC dI L kd tys fr_291 H.size g.2.2.2.1 q1_ mq1_ kq1_ r_291 q3_ mq3_ kq3_ (g.fcts [5] rfl)) (cwV 1 hts (gV_ t_1251 t_1252 t_1253 t_189 t_1254) rfl rfl rfl (by decide +kernel) ⟨(Nat.le_of_ble_eq_true rfl), (Nat.le_of_ble_eq_true rfl)⟩) (pre3V g hK mq1_ kq1_ (by decide) (q := (RX5, TX5, 9)) rfl) rfl rfl hl.1 rfl (lv_room (Nat.le_of_ble_eq_true rfl)) dX0_readOld_38 ⟨(Nat.le_of_ble_eq_true rfl), (Nat.le_of_ble_eq_true rfl)⟩) g hK (by decide) (by decide) (fx' := [(8, 6, q0_, .int 1201), (8, 8, q0_, .int x_22), (0, 0, a0_, .ref q0_), (0, 1, a0_, .ref q1_), (0, 2, a0_, .ref q2_), (5, 1, q1_, .ref q3_)]) rfl (fun r_297 fr_297 H locs hp hMr_297 g => ?_)
    obtain ⟨h_298, -⟩ := hp
    have hG_299 := eJx.frame hMr_297 go_.2.2.2.1 ma0_ ka0_ (by decide) (by decide) hG_292
    have hG_300 := cOK.frame hMr_297 go_.2.2.2.1 mq2_ kq2_ (by decide) (by decide) hG_293
    have hG_301 := dOK.frame hMr_297 go_.2.2.2.1 mq2_ kq2_ (by decide) (by decide) hG_294
    have hG_302 := jS.frame hMr_297 go_.2.2.2.1 mq2_ kq2_ (by decide) (by decide) hG_295
    have hG_303 := eOK.frame hMr_297 go_.2.2.2.1 ma0_ ka0_ (by decide) (by decide) hG_296
    refine lv_istore_n (lv' := [(3, .int r_297), (2, .int r_285), (1, .int r_1), (0, .ref a0_)]) hx hb dX0_readOld_41 rfl hl (by decide) rfl (fun ls hl => ?_)
    refine lv_aload_n hx hb dX0_readOld_42 rfl (lv_at hl 3 rfl) ?_
    refine g_getk (C := RX0) (T := TX0) (N := 14) hx hb hts (mc_ inX0) hown hK g rfl 0 (by decide) rfl (hts _ (List.mem_cons_of_mem _ t_373)) (fun _ h9 => h9) 2 rfl dX0_readOld_43 ?_
    have kb_1201 : bd 1201 1201 (1201 : Int32) := ⟨by decide, by decide⟩
    have go_ := g
    refine g_callv (va_runV (As := []) (rest := []) ⟨hx, hb, hml, hown, hts⟩ (r_X8_next_2 l dC dI L kd tys fr_297 H.size g.2.2.2.1 q0_ mq0_ kq0_ 1201 kb_1201 (g.fcts [0] rfl)) (cwV 0 hts (gV_ t_1225 t_1103 t_1104 t_184 t_1105) rfl rfl rfl (by decide +kernel) ⟨(Nat.le_of_ble_eq_true rfl), (Nat.le_of_ble_eq_true rfl)⟩) (pre3V g hK mq0_ kq0_ (by decide) (q := (RX8, TX8, 10)) rfl) rfl rfl hl.1 rfl (lv_room (Nat.le_of_ble_eq_true rfl)) dX0_readOld_46 ⟨(Nat.le_of_ble_eq_true rfl), (Nat.le_of_ble_eq_true rfl)⟩) g hK (by decide) (by decide) (fx' := [(8, 6, q0_, .int 1201), (8, 8, q0_, .int x_22), (0, 0, a0_, .ref q0_), (0, 1, a0_, .ref q1_), (0, 2, a0_, .ref q2_), (5, 1, q1_, .ref q3_)]) rfl (fun fr_304 H locs hp hMr_304 g => ?_)
    have hG_305 := eJx.frame hMr_304 go_.2.2.2.1 ma0_ ka0_ (by decide) (by decide) hG_299
    have hG_306 := cOK.frame hMr_304 go_.2.2.2.1 mq2_ kq2_ (by decide) (by decide) hG_300
    have hG_307 := dOK.frame hMr_304 go_.2.2.2.1 mq2_ kq2_ (by decide) (by decide) hG_301
    have hG_308 := jS.frame hMr_304 go_.2.2.2.1 mq2_ kq2_ (by decide) (by decide) hG_302
    have hG_309 := eOK.frame hMr_304 go_.2.2.2.1 ma0_ ka0_ (by decide) (by decide) hG_303
    refine lv_iload_n hx hb dX0_readOld_49 rfl (lv_at hl 0 rfl) ?_
    refine lv_iconst (v := (-1)) hx hb dX0_readOld_50 (by decide) ?_
    have kb_m1 : bd (-1) (-1) ((-1) : Int32) := ⟨by decide, by decide⟩
    refine lv_icmp_ne (tgt := 64) hx hb dX0_readOld_51 (by decide) (fun c_310 => ?_) (fun c_310 => ?_)
    · have fc_310 := neq_f c_310
      have b_311 : bd 0 26 r_297 := neX fc_310 h_298 kb_m1 (by decide)
      refine lv_aload_n hx hb dX0_readOld_64 rfl (lv_at hl 3 rfl) ?_
      refine g_getk (C := RX0) (T := TX0) (N := 14) hx hb hts (mc_ inX0) hown hK g rfl 1 (by decide) rfl (hts _ (List.mem_cons_of_mem _ t_374)) (fun _ h9 => h9) 3 rfl dX0_readOld_65 ?_
      refine g_getk (C := RX5) (T := TX5) (N := 9) hx hb hts (mc_ inX5) hown hK g rfl 1 (by decide) rfl (hts _ (List.mem_cons_of_mem _ t_332)) (fun _ h9 => h9) 5 rfl dX0_readOld_68 ?_
      refine lv_iload_n hx hb dX0_readOld_71 rfl (lv_at hl 0 rfl) ?_
      have go_ := g
      refine g_calli (va_runV (As := [.int r_297]) (rest := []) ⟨hx, hb, hml, hown, hts⟩ (r_X9_isRow l dC dI L kd tys fr_304 H.size g.2.2.2.1 q3_ mq3_ kq3_ r_297) (cwV 1 hts (gV_ t_1256 t_1257 t_1258 t_192 t_1259) rfl rfl rfl (by decide +kernel) ⟨(Nat.le_of_ble_eq_true rfl), (Nat.le_of_ble_eq_true rfl)⟩) (pre3V g hK mq3_ kq3_ (by decide) (q := (RX9, TX9, 13)) rfl) rfl rfl hl.1 rfl (lv_room (Nat.le_of_ble_eq_true rfl)) dX0_readOld_72 ⟨(Nat.le_of_ble_eq_true rfl), (Nat.le_of_ble_eq_true rfl)⟩) g hK (by decide) (by decide) (fx' := [(8, 6, q0_, .int 1201), (8, 8, q0_, .int x_22), (0, 0, a0_, .ref q0_), (0, 1, a0_, .ref q1_), (0, 2, a0_, .ref q2_), (5, 1, q1_, .ref q3_)]) rfl (fun r_312 fr_312 H locs hp hMr_312 g => ?_)
      rcases hp with ⟨h_313, -⟩ | ⟨h_314, h_315, x_316, h_317, hF_318⟩
      · have hG_319 := eJx.frame hMr_312 go_.2.2.2.1 ma0_ ka0_ (by decide) (by decide) hG_305
        have hG_320 := cOK.frame hMr_312 go_.2.2.2.1 mq2_ kq2_ (by decide) (by decide) hG_306
        have hG_321 := dOK.frame hMr_312 go_.2.2.2.1 mq2_ kq2_ (by decide) (by decide) hG_307
        have hG_322 := jS.frame hMr_312 go_.2.2.2.1 mq2_ kq2_ (by decide) (by decide) hG_308
        have hG_323 := eOK.frame hMr_312 go_.2.2.2.1 ma0_ ka0_ (by decide) (by decide) hG_309
        obtain rfl : r_312 = 0 := h_313
        refine lv_istore (lv' := [(4, .int 0), (3, .int r_297), (2, .int r_285), (1, .int r_1), (0, .ref a0_)]) hx hb dX0_readOld_75 hl (by decide) rfl (fun ls hl => ?_)
        refine lv_iload_n hx hb dX0_readOld_77 rfl (lv_at hl 1 rfl) ?_
        refine lv_bipush (v := 16) hx hb dX0_readOld_78 (by decide) ?_
        have kb_16 : bd 16 16 (16 : Int32) := ⟨by decide, by decide⟩
        refine lv_icmp_ge (tgt := 105) hx hb dX0_readOld_80 (by decide) (fun c_324 => ?_) (fun c_324 => ?_)
        · have fc_324 := le_f c_324
          have b_325 : bd 16 26 r_297 := leR fc_324 kb_16 b_311 (by decide)
          refine lv_aload_n hx hb dX0_readOld_105 rfl (lv_at hl 4 rfl) ?_
          refine g_getk (C := RX0) (T := TX0) (N := 14) hx hb hts (mc_ inX0) hown hK g rfl 0 (by decide) rfl (hts _ (List.mem_cons_of_mem _ t_373)) (fun _ h9 => h9) 2 rfl dX0_readOld_106 ?_
          refine lv_iconst (v := 5) hx hb dX0_readOld_109 (by decide) ?_
          refine lv_iload_n hx hb dX0_readOld_110 rfl (lv_at hl 2 rfl) ?_
          have kb_5 : bd 5 5 (5 : Int32) := ⟨by decide, by decide⟩
          have go_ := g
          refine g_callv (va_runV (As := [.int 5, .int r_285]) (rest := []) ⟨hx, hb, hml, hown, hts⟩ (r_X8_fail_2 l dC dI L kd tys fr_312 H.size g.2.2.2.1 q0_ mq0_ kq0_ 5 (bd_sub kb_5 (by decide)) r_285 x_22 h_23 (g.fcts [1] rfl)) (cwV 2 hts (gV_ t_1215 t_1107 t_1108 t_184 t_1109) rfl rfl rfl (by decide +kernel) ⟨(Nat.le_of_ble_eq_true rfl), (Nat.le_of_ble_eq_true rfl)⟩) (pre3V g hK mq0_ kq0_ (by decide) (q := (RX8, TX8, 10)) rfl) rfl rfl hl.1 rfl (lv_room (Nat.le_of_ble_eq_true rfl)) dX0_readOld_111 ⟨(Nat.le_of_ble_eq_true rfl), (Nat.le_of_ble_eq_true rfl)⟩) g hK (by decide) (by decide) (fx' := [(8, 8, q0_, .int x_22), (0, 0, a0_, .ref q0_), (0, 1, a0_, .ref q1_), (0, 2, a0_, .ref q2_), (5, 1, q1_, .ref q3_)]) rfl (fun fr_326 H locs hp hMr_326 g => ?_)
          have hF_327 := hp
          have hG_328 := eJx.frame hMr_326 go_.2.2.2.1 ma0_ ka0_ (by decide) (by decide) hG_319
          have hG_329 := cOK.frame hMr_326 go_.2.2.2.1 mq2_ kq2_ (by decide) (by decide) hG_320
          have hG_330 := dOK.frame hMr_326 go_.2.2.2.1 mq2_ kq2_ (by decide) (by decide) hG_321
          have hG_331 := jS.frame hMr_326 go_.2.2.2.1 mq2_ kq2_ (by decide) (by decide) hG_322
          have hG_332 := eOK.frame hMr_326 go_.2.2.2.1 ma0_ ka0_ (by decide) (by decide) hG_323
          have g := g.more hF_327
          subst hQ
          exact W.vret hx hb hr (fun t ht hW => ⟨⟨_, rfl, Or.inr (⟨hG_330, hG_332, 1201, kb_1201, x_22, h_23, (g.fcts [0, 1] rfl)⟩), q3_of g hK ht hW⟩, g.2.2.1.F ht⟩) g.2.2.1.2.2 dX0_readOld_114
        · have fc_324 := nle_f c_324
          have b_333 : bd 0 15 r_297 := ltL fc_324 b_311 kb_16 (by decide)
          refine lv_iload hx hb dX0_readOld_83 (lv_at hl 0 rfl) ?_
          refine lv_aload_n hx hb dX0_readOld_85 rfl (lv_at hl 4 rfl) ?_
          refine g_getk (C := RX0) (T := TX0) (N := 14) hx hb hts (mc_ inX0) hown hK g rfl 0 (by decide) rfl (hts _ (List.mem_cons_of_mem _ t_373)) (fun _ h9 => h9) 2 rfl dX0_readOld_86 ?_
          have go_ := g
          refine g_calli (va_runV (As := []) (rest := [.int 0]) ⟨hx, hb, hml, hown, hts⟩ (r_X8_kind_2 l dC dI L kd tys fr_312 H.size g.2.2.2.1 q0_ mq0_ kq0_ 1201 kb_1201 (g.fcts [0] rfl)) (cwV 0 hts (gV_ t_1186 t_1119 t_1120 t_184 t_1121) rfl rfl rfl (by decide +kernel) ⟨(Nat.le_of_ble_eq_true rfl), (Nat.le_of_ble_eq_true rfl)⟩) (pre3V g hK mq0_ kq0_ (by decide) (q := (RX8, TX8, 10)) rfl) rfl rfl hl.1 rfl (lv_room (Nat.le_of_ble_eq_true rfl)) dX0_readOld_89 ⟨(Nat.le_of_ble_eq_true rfl), (Nat.le_of_ble_eq_true rfl)⟩) g hK (by decide) (by decide) (fx' := [(8, 6, q0_, .int 1201), (8, 8, q0_, .int x_22), (0, 0, a0_, .ref q0_), (0, 1, a0_, .ref q1_), (0, 2, a0_, .ref q2_), (5, 1, q1_, .ref q3_)]) rfl (fun r_334 fr_334 H locs hp hMr_334 g => ?_)
          obtain ⟨h_335, -⟩ := hp
          have hG_336 := eJx.frame hMr_334 go_.2.2.2.1 ma0_ ka0_ (by decide) (by decide) hG_319
          have hG_337 := cOK.frame hMr_334 go_.2.2.2.1 mq2_ kq2_ (by decide) (by decide) hG_320
          have hG_338 := dOK.frame hMr_334 go_.2.2.2.1 mq2_ kq2_ (by decide) (by decide) hG_321
          have hG_339 := jS.frame hMr_334 go_.2.2.2.1 mq2_ kq2_ (by decide) (by decide) hG_322
          have hG_340 := eOK.frame hMr_334 go_.2.2.2.1 ma0_ ka0_ (by decide) (by decide) hG_323
          obtain rfl : r_334 = 0 := h_335
          refine lv_bipush (v := 91) hx hb dX0_readOld_92 (by decide) ?_
          refine lv_icmp_ne (tgt := 101) hx hb dX0_readOld_94 (by decide) (fun c_ => ?_) (fun c_ => absurd c_ (by decide))
          refine lv_iconst (v := 0) hx hb dX0_readOld_101 (by decide) ?_
          refine lv_icmp_eq (tgt := 115) hx hb dX0_readOld_102 (by decide) (fun c_ => ?_) (fun c_ => absurd (by decide) c_)
          refine lv_aload_n hx hb dX0_readOld_115 rfl (lv_at hl 4 rfl) ?_
          refine g_getk (C := RX0) (T := TX0) (N := 14) hx hb hts (mc_ inX0) hown hK g rfl 2 (by decide) rfl (hts _ (List.mem_cons_of_mem _ t_375)) (fun _ h9 => h9) 4 rfl dX0_readOld_116 ?_
          refine lv_dup hx hb dX0_readOld_119 rfl ?_
          refine g_geti (C := RX7) (T := TX7) (N := 19) hx hb hts (mc_ inX7) hown hK g mq2_ kq2_ (by decide) rfl 18 (by decide) rfl (hts _ (List.mem_cons_of_mem _ t_681)) (fun _ h9 => h9) rfl dX0_readOld_120 (fun x_341 bx_341 g => ?_)
          refine lv_iconst (v := 2) hx hb dX0_readOld_123 (by decide) ?_
          have kb_2 : bd 2 2 (2 : Int32) := ⟨by decide, by decide⟩
          refine lv_iadd hx hb dX0_readOld_124 ?_
          refine lv_topi (fun y_342 ey_342 => ?_)
          have go_ := g
          refine g_put (C := RX7) (T := TX7) (N := 19) hx hb hts (mc_ inX7) tyX7 tyX7_ok nmX7 hown hK g mq2_ kq2_ (by decide) rfl 18 (by decide) (hts _ (List.mem_cons_of_mem _ t_681)) (fun _ h9 => h9) rfl rfl (okV_i (bdT y_342)) rfl rfl (by decide) (Or.inr (Or.inl (by decide))) (fx' := [(8, 6, q0_, .int 1201), (8, 8, q0_, .int x_22), (0, 0, a0_, .ref q0_), (0, 1, a0_, .ref q1_), (0, 2, a0_, .ref q2_), (5, 1, q1_, .ref q3_)]) rfl dX0_readOld_125 (fun f H locs hM_343 g => ?_)
          have hG_344 := eJx.frame hM_343 go_.2.2.2.1 ma0_ ka0_ (by decide) (by decide) hG_336
          have hG_345 := cOK.frame hM_343 go_.2.2.2.1 mq2_ kq2_ (by decide) (by decide) hG_337
          have hG_346 := dOK.frame hM_343 go_.2.2.2.1 mq2_ kq2_ (by decide) (by decide) hG_338
          have hG_347 := jS.frame hM_343 go_.2.2.2.1 mq2_ kq2_ (by decide) (by decide) hG_339
          have hG_348 := eOK.frame hM_343 go_.2.2.2.1 ma0_ ka0_ (by decide) (by decide) hG_340
          refine lv_iload hx hb dX0_readOld_128 (lv_at hl 0 rfl) ?_
          refine lv_if_eq (tgt := 167) hx hb dX0_readOld_130 (by decide) (fun c_ => ?_) (fun c_ => absurd (by decide) c_)
          refine lv_aload_n hx hb dX0_readOld_167 rfl (lv_at hl 4 rfl) ?_
          refine g_getk (C := RX0) (T := TX0) (N := 14) hx hb hts (mc_ inX0) hown hK g rfl 0 (by decide) rfl (hts _ (List.mem_cons_of_mem _ t_373)) (fun _ h9 => h9) 3 rfl dX0_readOld_168 ?_
          refine lv_bipush (v := 41) hx hb dX0_readOld_171 (by decide) ?_
          have go_ := g
          refine g_callv (va_runV (As := [.int 41]) (rest := []) ⟨hx, hb, hml, hown, hts⟩ (r_X8_take_2 l dC dI L kd tys f H.size g.2.2.2.1 q0_ mq0_ kq0_ 41 1201 kb_1201 x_22 h_23 (g.fcts [1, 2] rfl)) (cwV 1 hts (gV_ t_1284 t_1099 t_1100 t_184 t_1101) rfl rfl rfl (by decide +kernel) ⟨(Nat.le_of_ble_eq_true rfl), (Nat.le_of_ble_eq_true rfl)⟩) (pre3V g hK mq0_ kq0_ (by decide) (q := (RX8, TX8, 10)) rfl) rfl rfl hl.1 rfl (lv_room (Nat.le_of_ble_eq_true rfl)) dX0_readOld_173 ⟨(Nat.le_of_ble_eq_true rfl), (Nat.le_of_ble_eq_true rfl)⟩) g hK (by decide) (by decide) (fx' := [(7, 18, q2_, .int y_342), (8, 8, q0_, .int x_22), (0, 0, a0_, .ref q0_), (0, 1, a0_, .ref q1_), (0, 2, a0_, .ref q2_), (5, 1, q1_, .ref q3_)]) rfl (fun fr_349 H locs hp hMr_349 g => ?_)
          obtain ⟨x_350, h_351, hF_352⟩ := hp
          have hG_353 := eJx.frame hMr_349 go_.2.2.2.1 ma0_ ka0_ (by decide) (by decide) hG_344
          have hG_354 := cOK.frame hMr_349 go_.2.2.2.1 mq2_ kq2_ (by decide) (by decide) hG_345
          have hG_355 := dOK.frame hMr_349 go_.2.2.2.1 mq2_ kq2_ (by decide) (by decide) hG_346
          have hG_356 := jS.frame hMr_349 go_.2.2.2.1 mq2_ kq2_ (by decide) (by decide) hG_347
          have hG_357 := eOK.frame hMr_349 go_.2.2.2.1 ma0_ ka0_ (by decide) (by decide) hG_348
          have g := g.more hF_352
          refine lv_aload_n hx hb dX0_readOld_176 rfl (lv_at hl 4 rfl) ?_
          refine g_getk (C := RX0) (T := TX0) (N := 14) hx hb hts (mc_ inX0) hown hK g rfl 2 (by decide) rfl (hts _ (List.mem_cons_of_mem _ t_375)) (fun _ h9 => h9) 5 rfl dX0_readOld_177 ?_
          refine lv_iconst (v := 4) hx hb dX0_readOld_180 (by decide) ?_
          refine lv_aload_n hx hb dX0_readOld_181 rfl (lv_at hl 4 rfl) ?_
          refine g_getk (C := RX0) (T := TX0) (N := 14) hx hb hts (mc_ inX0) hown hK g rfl 1 (by decide) rfl (hts _ (List.mem_cons_of_mem _ t_374)) (fun _ h9 => h9) 4 rfl dX0_readOld_182 ?_
          refine g_getk (C := RX5) (T := TX5) (N := 9) hx hb hts (mc_ inX5) hown hK g rfl 1 (by decide) rfl (hts _ (List.mem_cons_of_mem _ t_332)) (fun _ h9 => h9) 6 rfl dX0_readOld_185 ?_
          refine lv_iload_n hx hb dX0_readOld_188 rfl (lv_at hl 1 rfl) ?_
          have go_ := g
          refine g_calli (va_runV (As := [.int r_297]) (rest := [.int 4, .ref q2_]) ⟨hx, hb, hml, hown, hts⟩ (r_X9_spanOf l dC dI L kd tys fr_349 H.size g.2.2.2.1 q3_ mq3_ kq3_ r_297) (cwV 1 hts (gV_ t_1264 t_1265 t_1266 t_192 t_1267) rfl rfl rfl (by decide +kernel) ⟨(Nat.le_of_ble_eq_true rfl), (Nat.le_of_ble_eq_true rfl)⟩) (pre3V g hK mq3_ kq3_ (by decide) (q := (RX9, TX9, 13)) rfl) rfl rfl hl.1 rfl (lv_room (Nat.le_of_ble_eq_true rfl)) dX0_readOld_189 ⟨(Nat.le_of_ble_eq_true rfl), (Nat.le_of_ble_eq_true rfl)⟩) g hK (by decide) (by decide) (fx' := [(8, 6, q0_, .int x_350), (7, 18, q2_, .int y_342), (8, 8, q0_, .int x_22), (0, 0, a0_, .ref q0_), (0, 1, a0_, .ref q1_), (0, 2, a0_, .ref q2_), (5, 1, q1_, .ref q3_)]) rfl (fun r_358 fr_358 H locs hp hMr_358 g => ?_)
          obtain ⟨h_359, -⟩ := hp
          have hG_360 := eJx.frame hMr_358 go_.2.2.2.1 ma0_ ka0_ (by decide) (by decide) hG_353
          have hG_361 := cOK.frame hMr_358 go_.2.2.2.1 mq2_ kq2_ (by decide) (by decide) hG_354
          have hG_362 := dOK.frame hMr_358 go_.2.2.2.1 mq2_ kq2_ (by decide) (by decide) hG_355
          have hG_363 := jS.frame hMr_358 go_.2.2.2.1 mq2_ kq2_ (by decide) (by decide) hG_356
          have hG_364 := eOK.frame hMr_358 go_.2.2.2.1 ma0_ ka0_ (by decide) (by decide) hG_357
          obtain ⟨a_365, ma_365, ka_365, g⟩ := g_factr g mq2_ kq2_ (by decide) 4 rfl
          obtain ⟨a_366, ma_366, ka_366, g⟩ := g_factr g mq2_ kq2_ (by decide) 5 rfl
          obtain ⟨x_367, bx_367, g⟩ := g_facti g mq2_ kq2_ (by decide) 6 rfl
          have go_ := g
          refine g_callv (va_runV (As := [.int 4, .int r_358]) (rest := []) ⟨hx, hb, hml, hown, hts⟩ (r_X7_emitF l dC dI L kd tys fr_358 H.size g.2.2.2.1 q2_ mq2_ kq2_ a_365 ma_365 ka_365 a_366 ma_366 ka_366 x_367 bx_367 T_ hG_362 (4 : Int32) r_358 (g.fcts [2, 1, 0] rfl)) (cwV 2 hts (gV_ t_1203 t_1204 t_1205 t_191 t_1206) rfl rfl rfl (by decide +kernel) ⟨(Nat.le_of_ble_eq_true rfl), (Nat.le_of_ble_eq_true rfl)⟩) (pre3V g hK mq2_ kq2_ (by decide) (q := (RX7, TX7, 19)) rfl) rfl rfl hl.1 rfl (lv_room (Nat.le_of_ble_eq_true rfl)) dX0_readOld_192 ⟨(Nat.le_of_ble_eq_true rfl), (Nat.le_of_ble_eq_true rfl)⟩) g hK (by decide) (by decide) (fx' := [(7, 5, q2_, .ref a_366), (7, 4, q2_, .ref a_365), (8, 6, q0_, .int x_350), (7, 18, q2_, .int y_342), (8, 8, q0_, .int x_22), (0, 0, a0_, .ref q0_), (0, 1, a0_, .ref q1_), (0, 2, a0_, .ref q2_), (5, 1, q1_, .ref q3_)]) rfl (fun fr_368 H locs hp hMr_368 g => ?_)
          obtain ⟨hG_369, x_370, h_371, hF_372⟩ := hp
          have hG_373 := eOK.frame hMr_368 go_.2.2.2.1 ma0_ ka0_ (by decide) (by decide) hG_364
          have g := g.more hF_372
          refine lv_aload_n hx hb dX0_readOld_195 rfl (lv_at hl 4 rfl) ?_
          refine lv_iconst (v := 2) hx hb dX0_readOld_196 (by decide) ?_
          have go_ := g
          refine g_callv (va_runV (As := [.int 2]) (rest := []) ⟨hx, hb, hml, hown, hts⟩ (r_X0_addWhole l dC dI L kd tys fr_368 H.size g.2.2.2.1 a0_ ma0_ ka0_ 2) (cwV 1 hts (gV_ t_1211 t_1213 t_17 t_190 t_1214) rfl rfl rfl (by decide +kernel) ⟨(Nat.le_of_ble_eq_true rfl), (Nat.le_of_ble_eq_true rfl)⟩) (pre3V g hK ma0_ ka0_ (by decide) (q := (RX0, TX0, 14)) rfl) rfl rfl hl.1 rfl (lv_room (Nat.le_of_ble_eq_true rfl)) dX0_readOld_197 ⟨(Nat.le_of_ble_eq_true rfl), (Nat.le_of_ble_eq_true rfl)⟩) g hK (by decide) (by decide) (fx' := [(7, 6, q2_, .int x_370), (7, 5, q2_, .ref a_366), (7, 4, q2_, .ref a_365), (8, 6, q0_, .int x_350), (7, 18, q2_, .int y_342), (8, 8, q0_, .int x_22), (0, 0, a0_, .ref q0_), (0, 1, a0_, .ref q1_), (0, 2, a0_, .ref q2_), (5, 1, q1_, .ref q3_)]) rfl (fun fr_374 H locs hp hMr_374 g => ?_)
          obtain ⟨x_375, h_376, hF_377⟩ := hp
          have hG_378 := dOK.frame hMr_374 go_.2.2.2.1 mq2_ kq2_ (by decide) (by decide) hG_369
          have hG_379 := eOK.frame hMr_374 go_.2.2.2.1 ma0_ ka0_ (by decide) (by decide) hG_373
          have g := g.more hF_377
          subst hQ
          exact W.vret hx hb hr (fun t ht hW => ⟨⟨_, rfl, Or.inr (⟨hG_378, hG_379, x_350, h_351, x_22, h_23, (g.fcts [5, 7] rfl)⟩), q3_of g hK ht hW⟩, g.2.2.1.F ht⟩) g.2.2.1.2.2 dX0_readOld_200
      · have hG_380 := eJx.frame hMr_312 go_.2.2.2.1 ma0_ ka0_ (by decide) (by decide) hG_305
        have hG_381 := cOK.frame hMr_312 go_.2.2.2.1 mq2_ kq2_ (by decide) (by decide) hG_306
        have hG_382 := dOK.frame hMr_312 go_.2.2.2.1 mq2_ kq2_ (by decide) (by decide) hG_307
        have hG_383 := jS.frame hMr_312 go_.2.2.2.1 mq2_ kq2_ (by decide) (by decide) hG_308
        have hG_384 := eOK.frame hMr_312 go_.2.2.2.1 ma0_ ka0_ (by decide) (by decide) hG_309
        obtain rfl : r_312 = 1 := h_314
        have b_385 : bd 0 9 r_297 := eqX rfl b_311 h_315 (by decide)
        have g := g.more hF_318
        refine lv_istore (lv' := [(4, .int 1), (3, .int r_297), (2, .int r_285), (1, .int r_1), (0, .ref a0_)]) hx hb dX0_readOld_75 hl (by decide) rfl (fun ls hl => ?_)
        refine lv_iload_n hx hb dX0_readOld_77 rfl (lv_at hl 1 rfl) ?_
        refine lv_bipush (v := 16) hx hb dX0_readOld_78 (by decide) ?_
        have kb_16 : bd 16 16 (16 : Int32) := ⟨by decide, by decide⟩
        refine lv_icmp_ge (tgt := 105) hx hb dX0_readOld_80 (by decide) (fun c_386 => ?_) (fun c_386 => ?_)
        · have fc_386 := le_f c_386
          have b_387 : bd 16 9 (16 : Int32) := leL fc_386 kb_16 b_385 (by decide)
          exact bd_no (eqX rfl b_387 kb_16 (lo := 16) (hi := 9) (by decide)) (by decide)
        · have fc_386 := nle_f c_386
          refine lv_iload hx hb dX0_readOld_83 (lv_at hl 0 rfl) ?_
          refine lv_aload_n hx hb dX0_readOld_85 rfl (lv_at hl 4 rfl) ?_
          refine g_getk (C := RX0) (T := TX0) (N := 14) hx hb hts (mc_ inX0) hown hK g rfl 0 (by decide) rfl (hts _ (List.mem_cons_of_mem _ t_373)) (fun _ h9 => h9) 3 rfl dX0_readOld_86 ?_
          have go_ := g
          refine g_calli (va_runV (As := []) (rest := [.int 1]) ⟨hx, hb, hml, hown, hts⟩ (r_X8_kind_2 l dC dI L kd tys fr_312 H.size g.2.2.2.1 q0_ mq0_ kq0_ 1201 kb_1201 (g.fcts [1] rfl)) (cwV 0 hts (gV_ t_1186 t_1119 t_1120 t_184 t_1121) rfl rfl rfl (by decide +kernel) ⟨(Nat.le_of_ble_eq_true rfl), (Nat.le_of_ble_eq_true rfl)⟩) (pre3V g hK mq0_ kq0_ (by decide) (q := (RX8, TX8, 10)) rfl) rfl rfl hl.1 rfl (lv_room (Nat.le_of_ble_eq_true rfl)) dX0_readOld_89 ⟨(Nat.le_of_ble_eq_true rfl), (Nat.le_of_ble_eq_true rfl)⟩) g hK (by decide) (by decide) (fx' := [(9, 2, q3_, .int x_316), (8, 6, q0_, .int 1201), (8, 8, q0_, .int x_22), (0, 0, a0_, .ref q0_), (0, 1, a0_, .ref q1_), (0, 2, a0_, .ref q2_), (5, 1, q1_, .ref q3_)]) rfl (fun r_388 fr_388 H locs hp hMr_388 g => ?_)
          obtain ⟨h_389, -⟩ := hp
          have hG_390 := eJx.frame hMr_388 go_.2.2.2.1 ma0_ ka0_ (by decide) (by decide) hG_380
          have hG_391 := cOK.frame hMr_388 go_.2.2.2.1 mq2_ kq2_ (by decide) (by decide) hG_381
          have hG_392 := dOK.frame hMr_388 go_.2.2.2.1 mq2_ kq2_ (by decide) (by decide) hG_382
          have hG_393 := jS.frame hMr_388 go_.2.2.2.1 mq2_ kq2_ (by decide) (by decide) hG_383
          have hG_394 := eOK.frame hMr_388 go_.2.2.2.1 ma0_ ka0_ (by decide) (by decide) hG_384
          obtain rfl : r_388 = 0 := h_389
          refine lv_bipush (v := 91) hx hb dX0_readOld_92 (by decide) ?_
          refine lv_icmp_ne (tgt := 101) hx hb dX0_readOld_94 (by decide) (fun c_ => ?_) (fun c_ => absurd c_ (by decide))
          refine lv_iconst (v := 0) hx hb dX0_readOld_101 (by decide) ?_
          refine lv_icmp_eq (tgt := 115) hx hb dX0_readOld_102 (by decide) (fun c_ => absurd c_ (by decide)) (fun c_ => ?_)
          refine lv_aload_n hx hb dX0_readOld_105 rfl (lv_at hl 4 rfl) ?_
          refine g_getk (C := RX0) (T := TX0) (N := 14) hx hb hts (mc_ inX0) hown hK g rfl 0 (by decide) rfl (hts _ (List.mem_cons_of_mem _ t_373)) (fun _ h9 => h9) 3 rfl dX0_readOld_106 ?_
          refine lv_iconst (v := 5) hx hb dX0_readOld_109 (by decide) ?_
          refine lv_iload_n hx hb dX0_readOld_110 rfl (lv_at hl 2 rfl) ?_
          have kb_5 : bd 5 5 (5 : Int32) := ⟨by decide, by decide⟩
          have go_ := g
          refine g_callv (va_runV (As := [.int 5, .int r_285]) (rest := []) ⟨hx, hb, hml, hown, hts⟩ (r_X8_fail_2 l dC dI L kd tys fr_388 H.size g.2.2.2.1 q0_ mq0_ kq0_ 5 (bd_sub kb_5 (by decide)) r_285 x_22 h_23 (g.fcts [2] rfl)) (cwV 2 hts (gV_ t_1215 t_1107 t_1108 t_184 t_1109) rfl rfl rfl (by decide +kernel) ⟨(Nat.le_of_ble_eq_true rfl), (Nat.le_of_ble_eq_true rfl)⟩) (pre3V g hK mq0_ kq0_ (by decide) (q := (RX8, TX8, 10)) rfl) rfl rfl hl.1 rfl (lv_room (Nat.le_of_ble_eq_true rfl)) dX0_readOld_111 ⟨(Nat.le_of_ble_eq_true rfl), (Nat.le_of_ble_eq_true rfl)⟩) g hK (by decide) (by decide) (fx' := [(9, 2, q3_, .int x_316), (8, 8, q0_, .int x_22), (0, 0, a0_, .ref q0_), (0, 1, a0_, .ref q1_), (0, 2, a0_, .ref q2_), (5, 1, q1_, .ref q3_)]) rfl (fun fr_395 H locs hp hMr_395 g => ?_)
          have hF_396 := hp
          have hG_397 := eJx.frame hMr_395 go_.2.2.2.1 ma0_ ka0_ (by decide) (by decide) hG_390
          have hG_398 := cOK.frame hMr_395 go_.2.2.2.1 mq2_ kq2_ (by decide) (by decide) hG_391
          have hG_399 := dOK.frame hMr_395 go_.2.2.2.1 mq2_ kq2_ (by decide) (by decide) hG_392
          have hG_400 := jS.frame hMr_395 go_.2.2.2.1 mq2_ kq2_ (by decide) (by decide) hG_393
          have hG_401 := eOK.frame hMr_395 go_.2.2.2.1 ma0_ ka0_ (by decide) (by decide) hG_394
          have g := g.more hF_396
          subst hQ
          exact W.vret hx hb hr (fun t ht hW => ⟨⟨_, rfl, Or.inr (⟨hG_399, hG_401, 1201, kb_1201, x_22, h_23, (g.fcts [0, 2] rfl)⟩), q3_of g hK ht hW⟩, g.2.2.1.F ht⟩) g.2.2.1.2.2 dX0_readOld_114
    · have fc_310 := eq_f c_310
      have b_402 : bd (-1) (-1) r_297 := eqX fc_310 h_298 kb_m1 (by decide)
      refine lv_aload_n hx hb dX0_readOld_54 rfl (lv_at hl 3 rfl) ?_
      refine g_getk (C := RX0) (T := TX0) (N := 14) hx hb hts (mc_ inX0) hown hK g rfl 0 (by decide) rfl (hts _ (List.mem_cons_of_mem _ t_373)) (fun _ h9 => h9) 2 rfl dX0_readOld_55 ?_
      refine lv_iconst (v := 2) hx hb dX0_readOld_58 (by decide) ?_
      refine lv_iload_n hx hb dX0_readOld_59 rfl (lv_at hl 1 rfl) ?_
      have kb_2 : bd 2 2 (2 : Int32) := ⟨by decide, by decide⟩
      have go_ := g
      refine g_callv (va_runV (As := [.int 2, .int r_285]) (rest := []) ⟨hx, hb, hml, hown, hts⟩ (r_X8_fail_2 l dC dI L kd tys fr_304 H.size g.2.2.2.1 q0_ mq0_ kq0_ 2 (bd_sub kb_2 (by decide)) r_285 x_22 h_23 (g.fcts [1] rfl)) (cwV 2 hts (gV_ t_1215 t_1107 t_1108 t_184 t_1109) rfl rfl rfl (by decide +kernel) ⟨(Nat.le_of_ble_eq_true rfl), (Nat.le_of_ble_eq_true rfl)⟩) (pre3V g hK mq0_ kq0_ (by decide) (q := (RX8, TX8, 10)) rfl) rfl rfl hl.1 rfl (lv_room (Nat.le_of_ble_eq_true rfl)) dX0_readOld_60 ⟨(Nat.le_of_ble_eq_true rfl), (Nat.le_of_ble_eq_true rfl)⟩) g hK (by decide) (by decide) (fx' := [(8, 8, q0_, .int x_22), (0, 0, a0_, .ref q0_), (0, 1, a0_, .ref q1_), (0, 2, a0_, .ref q2_), (5, 1, q1_, .ref q3_)]) rfl (fun fr_403 H locs hp hMr_403 g => ?_)
      have hF_404 := hp
      have hG_405 := eJx.frame hMr_403 go_.2.2.2.1 ma0_ ka0_ (by decide) (by decide) hG_305
      have hG_406 := cOK.frame hMr_403 go_.2.2.2.1 mq2_ kq2_ (by decide) (by decide) hG_306
      have hG_407 := dOK.frame hMr_403 go_.2.2.2.1 mq2_ kq2_ (by decide) (by decide) hG_307
      have hG_408 := jS.frame hMr_403 go_.2.2.2.1 mq2_ kq2_ (by decide) (by decide) hG_308
      have hG_409 := eOK.frame hMr_403 go_.2.2.2.1 ma0_ ka0_ (by decide) (by decide) hG_309
      have g := g.more hF_404
      subst hQ
      exact W.vret hx hb hr (fun t ht hW => ⟨⟨_, rfl, Or.inr (⟨hG_407, hG_409, 1201, kb_1201, x_22, h_23, (g.fcts [0, 1] rfl)⟩), q3_of g hK ht hW⟩, g.2.2.1.F ht⟩) g.2.2.1.2.2 dX0_readOld_63
