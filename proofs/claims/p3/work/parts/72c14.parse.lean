set_option maxHeartbeats 4000000 in
set_option maxRecDepth 100000 in
theorem r_X0_readAbove_2 (l : Launch) (dC : Nat → ClassId) (dI : Nat → Nat → Nat) (L : List Nat) (kd : Nat → Nat) (tys : List (ClassId × FieldType)) (f0 : Nat → va_E) (sz : Nat) (hWT : WT L kd tys f0) (a0_ : Nat) (ma0_ : a0_ ∈ L) (ka0_ : kd a0_ = 0) (q0_ : Nat) (mq0_ : q0_ ∈ L) (kq0_ : kd q0_ = 8) (q1_ : Nat) (mq1_ : q1_ ∈ L) (kq1_ : kd q1_ = 5) (q2_ : Nat) (mq2_ : q2_ ∈ L) (kq2_ : kd q2_ = 7) (q3_ : Nat) (mq3_ : q3_ ∈ L) (kq3_ : kd q3_ = 9) (y0_ : Int32) (by0_ : bd 0 0 y0_) (T_ : Nat) (J_ : Int32 → Prop) (hGia0_ : eJx f0 a0_) (hGcq2_ : cOK f0 q2_) (hGdq2_ : dOK L kd f0 q2_ T_) (hGsq2_ : jS f0 q2_ J_) (hGea0_ : eOK f0 a0_) (hfx : Fs L kd f0 [(0, 0, a0_, .ref q0_), (0, 1, a0_, .ref q1_), (0, 2, a0_, .ref q2_), (5, 1, q1_, .ref q3_), (8, 8, q0_, .int y0_)]) : Met l yX0_readAbove (.code yX0_readAbove cX0_readAbove 6 none :: lw_g) ({ frames := 2, cells := 0, slots := 0, locals := 50 }) (va_Pc [.ref a0_] (P3 (dC, dI) L tys f0 sz)) (va_Qv (fun (f : Nat → va_E) => (eJx f a0_ ∧ cOK f q2_ ∧ dOK L kd f q2_ T_ ∧ jS f q2_ J_ ∧ eOK f a0_ ∧ ∃ z0_ : Int32, bd (-2147483648) 40 z0_ ∧ ∃ z1_ : Int32, bd 1 1201 z1_ ∧ ∃ z3_ : Int32, bd 1 8 z3_ ∧ ∃ z4_ : Int32, bd 0 7 z4_ ∧ Fs L kd f [(0, 11, a0_, .int z0_), (8, 6, q0_, .int z1_), (8, 8, q0_, .int y0_), (7, 1, q2_, .int z3_), (9, 1, q3_, .int z4_)]) ∨ (dOK L kd f q2_ T_ ∧ eOK f a0_ ∧ ∃ z1_ : Int32, bd 1 7 z1_ ∧ Fs L kd f [(8, 6, q0_, .int 1201), (8, 8, q0_, .int z1_)])) (Q3 (dC, dI) L kd tys [(0, 8), (0, 10), (0, 11), (0, 12), (7, 6), (7, 18), (8, 6), (8, 8), (8, 9)] [110, 111, 112, 113, 114, 115, 138, 139] f0 sz) (pA L sz)) 0 0 (pA L sz) := by
  refine Met.ofW (cc := cX0_readAbove) (maxL := 6) (ret := none) (by decide) rfl ?_
  intro p e s m args below meth c s₁ B hml hv
  obtain ⟨rfl, hsz, hP, hK, hD0⟩ := hv
  have hx := B.exec
  have hb := B.bytes
  have hr := B.returns
  have hts := atoms_spec (ws := (.code yX0_readAbove cX0_readAbove 6 none :: lw_g)) B.pre
  have hown : s.vm.findClass RX0 = some m.cls := findClass_of_methodNamed B.named
  have hlocks := B.notSynchronized
  subst hsz
  have g : G3 (dC, dI) L kd tys s f0 [(0, 8), (0, 10), (0, 11), (0, 12), (7, 6), (7, 18), (8, 6), (8, 8), (8, 9)] [110, 111, 112, 113, 114, 115, 138, 139] f0 s.heap [] [(0, 0, a0_, .ref q0_), (0, 1, a0_, .ref q1_), (0, 2, a0_, .ref q2_), (5, 1, q1_, .ref q3_), (8, 8, q0_, .int y0_)] := G3.start hP hD0 hWT hfx
  have hl := lv_entry ([.ref a0_]) (n := 6) (Nat.le_of_ble_eq_true rfl)
  rw [lg_entry_eq]
  generalize (lg_sl ([.ref a0_]) ++ List.replicate (6 - (lg_sl ([.ref a0_])).length) Slot.unset).toArray = ls at hl ⊢
  have hl : lv_has ls 6 [(0, .ref a0_)] := hl
  refine W_q (fun Q hQ => ?_)
  refine lv_aload_n hx hb dX0_readAbove_0 rfl (lv_at hl 0 rfl) ?_
  refine g_getk (C := RX0) (T := TX0) (N := 14) hx hb hts (mc_ inX0) hown hK g rfl 0 (by decide) rfl (hts _ (List.mem_cons_of_mem _ t_373)) (fun _ h9 => h9) 0 rfl dX0_readAbove_1 ?_
  have go_ := g
  refine g_calli (va_runV (As := []) (rest := []) ⟨hx, hb, hml, hown, hts⟩ (r_X8_place l dC dI L kd tys f0 s.heap.size g.2.2.2.1 q0_ mq0_ kq0_) (cwV 0 hts (gV_ t_1220 t_1111 t_1112 t_184 t_1113) rfl rfl rfl (by decide +kernel) ⟨(Nat.le_of_ble_eq_true rfl), (Nat.le_of_ble_eq_true rfl)⟩) (pre3V g hK mq0_ kq0_ (by decide) (q := (RX8, TX8, 10)) rfl) rfl rfl hl.1 rfl (lv_room (Nat.le_of_ble_eq_true rfl)) dX0_readAbove_4 ⟨(Nat.le_of_ble_eq_true rfl), (Nat.le_of_ble_eq_true rfl)⟩) g hK (by decide) (by decide) (fx' := [(0, 0, a0_, .ref q0_), (0, 1, a0_, .ref q1_), (0, 2, a0_, .ref q2_), (5, 1, q1_, .ref q3_), (8, 8, q0_, .int y0_)]) rfl (fun r_1 fr_1 H locs hp hMr_1 g => ?_)
  have hG_2 := eJx.frame hMr_1 go_.2.2.2.1 ma0_ ka0_ (by decide) (by decide) hGia0_
  have hG_3 := cOK.frame hMr_1 go_.2.2.2.1 mq2_ kq2_ (by decide) (by decide) hGcq2_
  have hG_4 := dOK.frame hMr_1 go_.2.2.2.1 mq2_ kq2_ (by decide) (by decide) hGdq2_
  have hG_5 := jS.frame hMr_1 go_.2.2.2.1 mq2_ kq2_ (by decide) (by decide) hGsq2_
  have hG_6 := eOK.frame hMr_1 go_.2.2.2.1 ma0_ ka0_ (by decide) (by decide) hGea0_
  refine lv_istore_n (lv' := [(1, .int r_1), (0, .ref a0_)]) hx hb dX0_readAbove_7 rfl hl (by decide) rfl (fun ls hl => ?_)
  refine lv_aload_n hx hb dX0_readAbove_8 rfl (lv_at hl 1 rfl) ?_
  refine g_getk (C := RX0) (T := TX0) (N := 14) hx hb hts (mc_ inX0) hown hK g rfl 0 (by decide) rfl (hts _ (List.mem_cons_of_mem _ t_373)) (fun _ h9 => h9) 0 rfl dX0_readAbove_9 ?_
  have go_ := g
  refine g_callv (va_runV (As := []) (rest := []) ⟨hx, hb, hml, hown, hts⟩ (r_X8_next l dC dI L kd tys fr_1 H.size g.2.2.2.1 q0_ mq0_ kq0_) (cwV 0 hts (gV_ t_1225 t_1103 t_1104 t_184 t_1105) rfl rfl rfl (by decide +kernel) ⟨(Nat.le_of_ble_eq_true rfl), (Nat.le_of_ble_eq_true rfl)⟩) (pre3V g hK mq0_ kq0_ (by decide) (q := (RX8, TX8, 10)) rfl) rfl rfl hl.1 rfl (lv_room (Nat.le_of_ble_eq_true rfl)) dX0_readAbove_12 ⟨(Nat.le_of_ble_eq_true rfl), (Nat.le_of_ble_eq_true rfl)⟩) g hK (by decide) (by decide) (fx' := [(0, 0, a0_, .ref q0_), (0, 1, a0_, .ref q1_), (0, 2, a0_, .ref q2_), (5, 1, q1_, .ref q3_), (8, 8, q0_, .int y0_)]) rfl (fun fr_7 H locs hp hMr_7 g => ?_)
  obtain ⟨x_8, h_9, hF_10⟩ := hp
  have hG_11 := eJx.frame hMr_7 go_.2.2.2.1 ma0_ ka0_ (by decide) (by decide) hG_2
  have hG_12 := cOK.frame hMr_7 go_.2.2.2.1 mq2_ kq2_ (by decide) (by decide) hG_3
  have hG_13 := dOK.frame hMr_7 go_.2.2.2.1 mq2_ kq2_ (by decide) (by decide) hG_4
  have hG_14 := jS.frame hMr_7 go_.2.2.2.1 mq2_ kq2_ (by decide) (by decide) hG_5
  have hG_15 := eOK.frame hMr_7 go_.2.2.2.1 ma0_ ka0_ (by decide) (by decide) hG_6
  have g := g.more hF_10
  refine lv_aload_n hx hb dX0_readAbove_15 rfl (lv_at hl 1 rfl) ?_
  refine g_getk (C := RX0) (T := TX0) (N := 14) hx hb hts (mc_ inX0) hown hK g rfl 2 (by decide) rfl (hts _ (List.mem_cons_of_mem _ t_375)) (fun _ h9 => h9) 3 rfl dX0_readAbove_16 ?_
  refine lv_aload_n hx hb dX0_readAbove_19 rfl (lv_at hl 1 rfl) ?_
  refine g_getk (C := RX0) (T := TX0) (N := 14) hx hb hts (mc_ inX0) hown hK g rfl 1 (by decide) rfl (hts _ (List.mem_cons_of_mem _ t_374)) (fun _ h9 => h9) 2 rfl dX0_readAbove_20 ?_
  refine g_getk (C := RX5) (T := TX5) (N := 9) hx hb hts (mc_ inX5) hown hK g rfl 1 (by decide) rfl (hts _ (List.mem_cons_of_mem _ t_332)) (fun _ h9 => h9) 4 rfl dX0_readAbove_23 ?_
  refine g_geti (C := RX9) (T := TX9) (N := 13) hx hb hts (mc_ inX9) hown hK g mq3_ kq3_ (by decide) rfl 1 (by decide) rfl (hts _ (List.mem_cons_of_mem _ t_482)) (fun _ h9 => h9) rfl dX0_readAbove_26 (fun x_16 bx_16 g => ?_)
  have go_ := g
  refine g_calli (va_runV (As := [.int x_16]) (rest := []) ⟨hx, hb, hml, hown, hts⟩ (r_X7_hasClass l dC dI L kd tys fr_7 H.size g.2.2.2.1 q2_ mq2_ kq2_ x_16) (cwV 1 hts (gV_ t_1280 t_1281 t_1282 t_191 t_1283) rfl rfl rfl (by decide +kernel) ⟨(Nat.le_of_ble_eq_true rfl), (Nat.le_of_ble_eq_true rfl)⟩) (pre3V g hK mq2_ kq2_ (by decide) (q := (RX7, TX7, 19)) rfl) rfl rfl hl.1 rfl (lv_room (Nat.le_of_ble_eq_true rfl)) dX0_readAbove_29 ⟨(Nat.le_of_ble_eq_true rfl), (Nat.le_of_ble_eq_true rfl)⟩) g hK (by decide) (by decide) (fx' := [(9, 1, q3_, .int x_16), (8, 6, q0_, .int x_8), (0, 0, a0_, .ref q0_), (0, 1, a0_, .ref q1_), (0, 2, a0_, .ref q2_), (5, 1, q1_, .ref q3_), (8, 8, q0_, .int y0_)]) rfl (fun r_17 fr_17 H locs hp hMr_17 g => ?_)
  rcases hp with ⟨h_18, -⟩ | ⟨h_19, h_20, x_21, h_22, hF_23⟩
  · have hG_24 := eJx.frame hMr_17 go_.2.2.2.1 ma0_ ka0_ (by decide) (by decide) hG_11
    have hG_25 := cOK.frame hMr_17 go_.2.2.2.1 mq2_ kq2_ (by decide) (by decide) hG_12
    have hG_26 := dOK.frame hMr_17 go_.2.2.2.1 mq2_ kq2_ (by decide) (by decide) hG_13
    have hG_27 := jS.frame hMr_17 go_.2.2.2.1 mq2_ kq2_ (by decide) (by decide) hG_14
    have hG_28 := eOK.frame hMr_17 go_.2.2.2.1 ma0_ ka0_ (by decide) (by decide) hG_15
    obtain rfl : r_17 = 0 := h_18
    refine lv_if_ne (tgt := 45) hx hb dX0_readAbove_32 (by decide) (fun c_ => absurd c_ (by decide)) (fun c_ => ?_)
    refine lv_aload_n hx hb dX0_readAbove_35 rfl (lv_at hl 1 rfl) ?_
    refine g_getk (C := RX0) (T := TX0) (N := 14) hx hb hts (mc_ inX0) hown hK g rfl 0 (by decide) rfl (hts _ (List.mem_cons_of_mem _ t_373)) (fun _ h9 => h9) 2 rfl dX0_readAbove_36 ?_
    refine lv_iconst (v := 5) hx hb dX0_readAbove_39 (by decide) ?_
    refine lv_iload_n hx hb dX0_readAbove_40 rfl (lv_at hl 0 rfl) ?_
    have kb_5 : bd 5 5 (5 : Int32) := ⟨by decide, by decide⟩
    have go_ := g
    refine g_callv (va_runV (As := [.int 5, .int r_1]) (rest := []) ⟨hx, hb, hml, hown, hts⟩ (r_X8_fail l dC dI L kd tys fr_17 H.size g.2.2.2.1 q0_ mq0_ kq0_ 5 (bd_sub kb_5 (by decide)) r_1 y0_ by0_ (g.fcts [6] rfl)) (cwV 2 hts (gV_ t_1215 t_1107 t_1108 t_184 t_1109) rfl rfl rfl (by decide +kernel) ⟨(Nat.le_of_ble_eq_true rfl), (Nat.le_of_ble_eq_true rfl)⟩) (pre3V g hK mq0_ kq0_ (by decide) (q := (RX8, TX8, 10)) rfl) rfl rfl hl.1 rfl (lv_room (Nat.le_of_ble_eq_true rfl)) dX0_readAbove_41 ⟨(Nat.le_of_ble_eq_true rfl), (Nat.le_of_ble_eq_true rfl)⟩) g hK (by decide) (by decide) (fx' := [(9, 1, q3_, .int x_16), (0, 0, a0_, .ref q0_), (0, 1, a0_, .ref q1_), (0, 2, a0_, .ref q2_), (5, 1, q1_, .ref q3_)]) rfl (fun fr_29 H locs hp hMr_29 g => ?_)
    obtain ⟨x_30, h_31, hF_32⟩ := hp
    have hG_33 := eJx.frame hMr_29 go_.2.2.2.1 ma0_ ka0_ (by decide) (by decide) hG_24
    have hG_34 := cOK.frame hMr_29 go_.2.2.2.1 mq2_ kq2_ (by decide) (by decide) hG_25
    have hG_35 := dOK.frame hMr_29 go_.2.2.2.1 mq2_ kq2_ (by decide) (by decide) hG_26
    have hG_36 := jS.frame hMr_29 go_.2.2.2.1 mq2_ kq2_ (by decide) (by decide) hG_27
    have hG_37 := eOK.frame hMr_29 go_.2.2.2.1 ma0_ ka0_ (by decide) (by decide) hG_28
    have g := g.more hF_32
    subst hQ
    exact W.vret hx hb hr (fun t ht hW => ⟨⟨_, rfl, Or.inr (⟨hG_35, hG_37, x_30, h_31, (g.fcts [0, 1] rfl)⟩), q3_of g hK ht hW⟩, g.2.2.1.F ht⟩) g.2.2.1.2.2 dX0_readAbove_44
  · have hG_38 := eJx.frame hMr_17 go_.2.2.2.1 ma0_ ka0_ (by decide) (by decide) hG_11
    have hG_39 := cOK.frame hMr_17 go_.2.2.2.1 mq2_ kq2_ (by decide) (by decide) hG_12
    have hG_40 := dOK.frame hMr_17 go_.2.2.2.1 mq2_ kq2_ (by decide) (by decide) hG_13
    have hG_41 := jS.frame hMr_17 go_.2.2.2.1 mq2_ kq2_ (by decide) (by decide) hG_14
    have hG_42 := eOK.frame hMr_17 go_.2.2.2.1 ma0_ ka0_ (by decide) (by decide) hG_15
    obtain rfl : r_17 = 1 := h_19
    have b_43 : bd 0 7 x_16 := eqX rfl (bdT x_16) h_20 (by decide)
    have g := g.more hF_23
    refine lv_if_ne (tgt := 45) hx hb dX0_readAbove_32 (by decide) (fun c_ => ?_) (fun c_ => absurd c_ (by decide))
    refine lv_aload_n hx hb dX0_readAbove_45 rfl (lv_at hl 1 rfl) ?_
    refine g_getk (C := RX0) (T := TX0) (N := 14) hx hb hts (mc_ inX0) hown hK g rfl 2 (by decide) rfl (hts _ (List.mem_cons_of_mem _ t_375)) (fun _ h9 => h9) 5 rfl dX0_readAbove_46 ?_
    refine g_getr (K := 136) (C := RX7) (T := TX7) (N := 19) hx hb hts (mc_ inX7) hown hK g mq2_ kq2_ (by decide) rfl 0 (by decide) rfl (hts _ (List.mem_cons_of_mem _ t_625)) (fun _ h9 => h9) rfl dX0_readAbove_49 (fun a_44 ma_44 ka_44 g => ?_)
    refine lv_aload_n hx hb dX0_readAbove_52 rfl (lv_at hl 1 rfl) ?_
    refine g_getk (C := RX0) (T := TX0) (N := 14) hx hb hts (mc_ inX0) hown hK g rfl 1 (by decide) rfl (hts _ (List.mem_cons_of_mem _ t_374)) (fun _ h9 => h9) 5 rfl dX0_readAbove_53 ?_
    refine g_getk (C := RX5) (T := TX5) (N := 9) hx hb hts (mc_ inX5) hown hK g rfl 1 (by decide) rfl (hts _ (List.mem_cons_of_mem _ t_332)) (fun _ h9 => h9) 7 rfl dX0_readAbove_56 ?_
    refine g_getk (C := RX9) (T := TX9) (N := 13) hx hb hts (mc_ inX9) hown hK g rfl 1 (by decide) rfl (hts _ (List.mem_cons_of_mem _ t_482)) (fun _ h9 => h9) 2 rfl dX0_readAbove_59 ?_
    refine g_aald hx hb hK g ma_44 ka_44 (by decide) rfl (by decide) (in_bd b_43 (by decide)) dX0_readAbove_62 (fun a_45 ma_45 ua_45 wa_45 => ?_)
    have ka_45 : kd a_45 = 9 := by omega
    refine lv_astore_n (lv' := [(2, .ref a_45), (1, .int r_1), (0, .ref a0_)]) hx hb dX0_readAbove_63 rfl hl (by decide) rfl (fun ls hl => ?_)
    refine lv_aload_n hx hb dX0_readAbove_64 rfl (lv_at hl 2 rfl) ?_
    refine g_getk (C := RX0) (T := TX0) (N := 14) hx hb hts (mc_ inX0) hown hK g rfl 0 (by decide) rfl (hts _ (List.mem_cons_of_mem _ t_373)) (fun _ h9 => h9) 4 rfl dX0_readAbove_65 ?_
    refine lv_bipush (v := 46) hx hb dX0_readAbove_68 (by decide) ?_
    have go_ := g
    refine g_callv (va_runV (As := [.int 46]) (rest := []) ⟨hx, hb, hml, hown, hts⟩ (r_X8_take l dC dI L kd tys fr_17 H.size g.2.2.2.1 q0_ mq0_ kq0_ 46 y0_ by0_ (g.fcts [8] rfl)) (cwV 1 hts (gV_ t_1284 t_1099 t_1100 t_184 t_1101) rfl rfl rfl (by decide +kernel) ⟨(Nat.le_of_ble_eq_true rfl), (Nat.le_of_ble_eq_true rfl)⟩) (pre3V g hK mq0_ kq0_ (by decide) (q := (RX8, TX8, 10)) rfl) rfl rfl hl.1 rfl (lv_room (Nat.le_of_ble_eq_true rfl)) dX0_readAbove_70 ⟨(Nat.le_of_ble_eq_true rfl), (Nat.le_of_ble_eq_true rfl)⟩) g hK (by decide) (by decide) (fx' := [(7, 0, q2_, .ref a_44), (7, 1, q2_, .int x_21), (9, 1, q3_, .int x_16), (0, 0, a0_, .ref q0_), (0, 1, a0_, .ref q1_), (0, 2, a0_, .ref q2_), (5, 1, q1_, .ref q3_)]) rfl (fun fr_46 H locs hp hMr_46 g => ?_)
    rcases hp with ⟨x_47, h_48, hF_49⟩ | ⟨x_50, h_51, hF_52⟩
    · have hG_53 := eJx.frame hMr_46 go_.2.2.2.1 ma0_ ka0_ (by decide) (by decide) hG_38
      have hG_54 := cOK.frame hMr_46 go_.2.2.2.1 mq2_ kq2_ (by decide) (by decide) hG_39
      have hG_55 := dOK.frame hMr_46 go_.2.2.2.1 mq2_ kq2_ (by decide) (by decide) hG_40
      have hG_56 := jS.frame hMr_46 go_.2.2.2.1 mq2_ kq2_ (by decide) (by decide) hG_41
      have hG_57 := eOK.frame hMr_46 go_.2.2.2.1 ma0_ ka0_ (by decide) (by decide) hG_42
      have g := g.more hF_49
      refine lv_aload_n hx hb dX0_readAbove_73 rfl (lv_at hl 2 rfl) ?_
      refine g_getk (C := RX0) (T := TX0) (N := 14) hx hb hts (mc_ inX0) hown hK g rfl 0 (by decide) rfl (hts _ (List.mem_cons_of_mem _ t_373)) (fun _ h9 => h9) 5 rfl dX0_readAbove_74 ?_
      have go_ := g
      refine g_calli (va_runV (As := []) (rest := []) ⟨hx, hb, hml, hown, hts⟩ (r_X8_place l dC dI L kd tys fr_46 H.size g.2.2.2.1 q0_ mq0_ kq0_) (cwV 0 hts (gV_ t_1220 t_1111 t_1112 t_184 t_1113) rfl rfl rfl (by decide +kernel) ⟨(Nat.le_of_ble_eq_true rfl), (Nat.le_of_ble_eq_true rfl)⟩) (pre3V g hK mq0_ kq0_ (by decide) (q := (RX8, TX8, 10)) rfl) rfl rfl hl.1 rfl (lv_room (Nat.le_of_ble_eq_true rfl)) dX0_readAbove_77 ⟨(Nat.le_of_ble_eq_true rfl), (Nat.le_of_ble_eq_true rfl)⟩) g hK (by decide) (by decide) (fx' := [(8, 6, q0_, .int x_47), (8, 8, q0_, .int y0_), (7, 0, q2_, .ref a_44), (7, 1, q2_, .int x_21), (9, 1, q3_, .int x_16), (0, 0, a0_, .ref q0_), (0, 1, a0_, .ref q1_), (0, 2, a0_, .ref q2_), (5, 1, q1_, .ref q3_)]) rfl (fun r_58 fr_58 H locs hp hMr_58 g => ?_)
      have hG_59 := eJx.frame hMr_58 go_.2.2.2.1 ma0_ ka0_ (by decide) (by decide) hG_53
      have hG_60 := cOK.frame hMr_58 go_.2.2.2.1 mq2_ kq2_ (by decide) (by decide) hG_54
      have hG_61 := dOK.frame hMr_58 go_.2.2.2.1 mq2_ kq2_ (by decide) (by decide) hG_55
      have hG_62 := jS.frame hMr_58 go_.2.2.2.1 mq2_ kq2_ (by decide) (by decide) hG_56
      have hG_63 := eOK.frame hMr_58 go_.2.2.2.1 ma0_ ka0_ (by decide) (by decide) hG_57
      refine lv_istore_n (lv' := [(3, .int r_58), (2, .ref a_45), (1, .int r_1), (0, .ref a0_)]) hx hb dX0_readAbove_80 rfl hl (by decide) rfl (fun ls hl => ?_)
      refine lv_aload_n hx hb dX0_readAbove_81 rfl (lv_at hl 3 rfl) ?_
      refine g_getk (C := RX0) (T := TX0) (N := 14) hx hb hts (mc_ inX0) hown hK g rfl 0 (by decide) rfl (hts _ (List.mem_cons_of_mem _ t_373)) (fun _ h9 => h9) 5 rfl dX0_readAbove_82 ?_
      have go_ := g
      refine g_calli (va_runV (As := []) (rest := []) ⟨hx, hb, hml, hown, hts⟩ (r_X8_kind l dC dI L kd tys fr_58 H.size g.2.2.2.1 q0_ mq0_ kq0_) (cwV 0 hts (gV_ t_1186 t_1119 t_1120 t_184 t_1121) rfl rfl rfl (by decide +kernel) ⟨(Nat.le_of_ble_eq_true rfl), (Nat.le_of_ble_eq_true rfl)⟩) (pre3V g hK mq0_ kq0_ (by decide) (q := (RX8, TX8, 10)) rfl) rfl rfl hl.1 rfl (lv_room (Nat.le_of_ble_eq_true rfl)) dX0_readAbove_85 ⟨(Nat.le_of_ble_eq_true rfl), (Nat.le_of_ble_eq_true rfl)⟩) g hK (by decide) (by decide) (fx' := [(8, 6, q0_, .int x_47), (8, 8, q0_, .int y0_), (7, 0, q2_, .ref a_44), (7, 1, q2_, .int x_21), (9, 1, q3_, .int x_16), (0, 0, a0_, .ref q0_), (0, 1, a0_, .ref q1_), (0, 2, a0_, .ref q2_), (5, 1, q1_, .ref q3_)]) rfl (fun r_64 fr_64 H locs hp hMr_64 g => ?_)
      have hG_65 := eJx.frame hMr_64 go_.2.2.2.1 ma0_ ka0_ (by decide) (by decide) hG_59
      have hG_66 := cOK.frame hMr_64 go_.2.2.2.1 mq2_ kq2_ (by decide) (by decide) hG_60
      have hG_67 := dOK.frame hMr_64 go_.2.2.2.1 mq2_ kq2_ (by decide) (by decide) hG_61
      have hG_68 := jS.frame hMr_64 go_.2.2.2.1 mq2_ kq2_ (by decide) (by decide) hG_62
      have hG_69 := eOK.frame hMr_64 go_.2.2.2.1 ma0_ ka0_ (by decide) (by decide) hG_63
      refine lv_iconst (v := 3) hx hb dX0_readAbove_88 (by decide) ?_
      have kb_3 : bd 3 3 (3 : Int32) := ⟨by decide, by decide⟩
      refine lv_icmp_eq (tgt := 102) hx hb dX0_readAbove_89 (by decide) (fun c_70 => ?_) (fun c_70 => ?_)
      · have fc_70 := eq_f c_70
        have b_71 : bd 3 3 r_64 := eqX fc_70 (bdT r_64) kb_3 (by decide)
        refine lv_aload_n hx hb dX0_readAbove_102 rfl (lv_at hl 3 rfl) ?_
        refine g_getk (C := RX0) (T := TX0) (N := 14) hx hb hts (mc_ inX0) hown hK g rfl 2 (by decide) rfl (hts _ (List.mem_cons_of_mem _ t_375)) (fun _ h9 => h9) 7 rfl dX0_readAbove_103 ?_
        refine lv_aload_n hx hb dX0_readAbove_106 rfl (lv_at hl 1 rfl) ?_
        refine lv_aload_n hx hb dX0_readAbove_107 rfl (lv_at hl 3 rfl) ?_
        refine g_getk (C := RX0) (T := TX0) (N := 14) hx hb hts (mc_ inX0) hown hK g rfl 0 (by decide) rfl (hts _ (List.mem_cons_of_mem _ t_373)) (fun _ h9 => h9) 5 rfl dX0_readAbove_108 ?_
        have go_ := g
        refine g_calll (va_runV (As := []) (rest := [.ref a_45, .ref q2_]) ⟨hx, hb, hml, hown, hts⟩ (r_X8_value l dC dI L kd tys fr_64 H.size g.2.2.2.1 q0_ mq0_ kq0_) (cwV 0 hts (gV_ t_1238 t_1115 t_1116 t_184 t_1117) rfl rfl rfl (by decide +kernel) ⟨(Nat.le_of_ble_eq_true rfl), (Nat.le_of_ble_eq_true rfl)⟩) (pre3V g hK mq0_ kq0_ (by decide) (q := (RX8, TX8, 10)) rfl) rfl rfl hl.1 rfl (lv_room (Nat.le_of_ble_eq_true rfl)) dX0_readAbove_111 ⟨(Nat.le_of_ble_eq_true rfl), (Nat.le_of_ble_eq_true rfl)⟩) g hK (by decide) (by decide) (fx' := [(8, 6, q0_, .int x_47), (8, 8, q0_, .int y0_), (7, 0, q2_, .ref a_44), (7, 1, q2_, .int x_21), (9, 1, q3_, .int x_16), (0, 0, a0_, .ref q0_), (0, 1, a0_, .ref q1_), (0, 2, a0_, .ref q2_), (5, 1, q1_, .ref q3_)]) rfl (fun r_72 fr_72 H locs hp hMr_72 g => ?_)
        have hG_73 := eJx.frame hMr_72 go_.2.2.2.1 ma0_ ka0_ (by decide) (by decide) hG_65
        have hG_74 := cOK.frame hMr_72 go_.2.2.2.1 mq2_ kq2_ (by decide) (by decide) hG_66
        have hG_75 := dOK.frame hMr_72 go_.2.2.2.1 mq2_ kq2_ (by decide) (by decide) hG_67
        have hG_76 := jS.frame hMr_72 go_.2.2.2.1 mq2_ kq2_ (by decide) (by decide) hG_68
        have hG_77 := eOK.frame hMr_72 go_.2.2.2.1 ma0_ ka0_ (by decide) (by decide) hG_69
        have go_ := g
        refine g_calli (va_runV (As := [.ref a_45, .long r_72]) (rest := []) ⟨hx, hb, hml, hown, hts⟩ (r_X7_memberNamed l dC dI L kd tys fr_72 H.size g.2.2.2.1 q2_ mq2_ kq2_ a_45 ma_45 ka_45 r_72) (cwV 2 hts (gV_ t_1243 t_1244 t_1245 t_191 t_1246) rfl rfl rfl (by decide +kernel) ⟨(Nat.le_of_ble_eq_true rfl), (Nat.le_of_ble_eq_true rfl)⟩) (pre3V g hK mq2_ kq2_ (by decide) (q := (RX7, TX7, 19)) rfl) rfl rfl hl.1 rfl (lv_room (Nat.le_of_ble_eq_true rfl)) dX0_readAbove_114 ⟨(Nat.le_of_ble_eq_true rfl), (Nat.le_of_ble_eq_true rfl)⟩) g hK (by decide) (by decide) (fx' := [(8, 6, q0_, .int x_47), (8, 8, q0_, .int y0_), (7, 0, q2_, .ref a_44), (7, 1, q2_, .int x_21), (9, 1, q3_, .int x_16), (0, 0, a0_, .ref q0_), (0, 1, a0_, .ref q1_), (0, 2, a0_, .ref q2_), (5, 1, q1_, .ref q3_)]) rfl (fun r_78 fr_78 H locs hp hMr_78 g => ?_)
        obtain ⟨h_79, -⟩ := hp
        have hG_80 := eJx.frame hMr_78 go_.2.2.2.1 ma0_ ka0_ (by decide) (by decide) hG_73
        have hG_81 := cOK.frame hMr_78 go_.2.2.2.1 mq2_ kq2_ (by decide) (by decide) hG_74
        have hG_82 := dOK.frame hMr_78 go_.2.2.2.1 mq2_ kq2_ (by decide) (by decide) hG_75
        have hG_83 := jS.frame hMr_78 go_.2.2.2.1 mq2_ kq2_ (by decide) (by decide) hG_76
        have hG_84 := eOK.frame hMr_78 go_.2.2.2.1 ma0_ ka0_ (by decide) (by decide) hG_77
        refine lv_istore (lv' := [(4, .int r_78), (3, .int r_58), (2, .ref a_45), (1, .int r_1), (0, .ref a0_)]) hx hb dX0_readAbove_117 hl (by decide) rfl (fun ls hl => ?_)
        refine lv_iload hx hb dX0_readAbove_119 (lv_at hl 0 rfl) ?_
        refine lv_iconst (v := (-1)) hx hb dX0_readAbove_121 (by decide) ?_
        have kb_m1 : bd (-1) (-1) ((-1) : Int32) := ⟨by decide, by decide⟩
        refine lv_icmp_ne (tgt := 135) hx hb dX0_readAbove_122 (by decide) (fun c_85 => ?_) (fun c_85 => ?_)
        · have fc_85 := neq_f c_85
          have b_86 : bd 0 11 r_78 := neX fc_85 h_79 kb_m1 (by decide)
          refine lv_aload_n hx hb dX0_readAbove_135 rfl (lv_at hl 4 rfl) ?_
          refine g_getk (C := RX0) (T := TX0) (N := 14) hx hb hts (mc_ inX0) hown hK g rfl 0 (by decide) rfl (hts _ (List.mem_cons_of_mem _ t_373)) (fun _ h9 => h9) 5 rfl dX0_readAbove_136 ?_
          have go_ := g
          refine g_callv (va_runV (As := []) (rest := []) ⟨hx, hb, hml, hown, hts⟩ (r_X8_next l dC dI L kd tys fr_78 H.size g.2.2.2.1 q0_ mq0_ kq0_) (cwV 0 hts (gV_ t_1225 t_1103 t_1104 t_184 t_1105) rfl rfl rfl (by decide +kernel) ⟨(Nat.le_of_ble_eq_true rfl), (Nat.le_of_ble_eq_true rfl)⟩) (pre3V g hK mq0_ kq0_ (by decide) (q := (RX8, TX8, 10)) rfl) rfl rfl hl.1 rfl (lv_room (Nat.le_of_ble_eq_true rfl)) dX0_readAbove_139 ⟨(Nat.le_of_ble_eq_true rfl), (Nat.le_of_ble_eq_true rfl)⟩) g hK (by decide) (by decide) (fx' := [(8, 8, q0_, .int y0_), (7, 0, q2_, .ref a_44), (7, 1, q2_, .int x_21), (9, 1, q3_, .int x_16), (0, 0, a0_, .ref q0_), (0, 1, a0_, .ref q1_), (0, 2, a0_, .ref q2_), (5, 1, q1_, .ref q3_)]) rfl (fun fr_87 H locs hp hMr_87 g => ?_)
          obtain ⟨x_88, h_89, hF_90⟩ := hp
          have hG_91 := eJx.frame hMr_87 go_.2.2.2.1 ma0_ ka0_ (by decide) (by decide) hG_80
          have hG_92 := cOK.frame hMr_87 go_.2.2.2.1 mq2_ kq2_ (by decide) (by decide) hG_81
          have hG_93 := dOK.frame hMr_87 go_.2.2.2.1 mq2_ kq2_ (by decide) (by decide) hG_82
          have hG_94 := jS.frame hMr_87 go_.2.2.2.1 mq2_ kq2_ (by decide) (by decide) hG_83
          have hG_95 := eOK.frame hMr_87 go_.2.2.2.1 ma0_ ka0_ (by decide) (by decide) hG_84
          have g := g.more hF_90
          refine lv_aload_n hx hb dX0_readAbove_142 rfl (lv_at hl 2 rfl) ?_
          refine g_getr (K := 156) (C := RX9) (T := TX9) (N := 13) hx hb hts (mc_ inX9) hown hK g ma_45 ka_45 (by decide) rfl 9 (by decide) rfl (hts _ (List.mem_cons_of_mem _ t_508)) (fun _ h9 => h9) rfl dX0_readAbove_143 (fun a_96 ma_96 ka_96 g => ?_)
          refine lv_iload hx hb dX0_readAbove_146 (lv_at hl 0 rfl) ?_
          refine g_iald hx hb hK g ma_96 ka_96 (by decide) rfl (in_bd b_86 (by decide)) dX0_readAbove_148 (fun x_97 bx_97 cx_97 => ?_)
          refine lv_istore (lv' := [(5, .int x_97), (4, .int r_78), (3, .int r_58), (2, .ref a_45), (1, .int r_1), (0, .ref a0_)]) hx hb dX0_readAbove_149 hl (by decide) rfl (fun ls hl => ?_)
          refine lv_aload_n hx hb dX0_readAbove_151 rfl (lv_at hl 5 rfl) ?_
          refine g_getk (C := RX0) (T := TX0) (N := 14) hx hb hts (mc_ inX0) hown hK g rfl 1 (by decide) rfl (hts _ (List.mem_cons_of_mem _ t_374)) (fun _ h9 => h9) 7 rfl dX0_readAbove_152 ?_
          refine g_geti (C := RX5) (T := TX5) (N := 9) hx hb hts (mc_ inX5) hown hK g mq1_ kq1_ (by decide) rfl 7 (by decide) rfl (hts _ (List.mem_cons_of_mem _ t_343)) (fun _ h9 => h9) rfl dX0_readAbove_155 (fun x_98 bx_98 g => ?_)
          have kb_0 : bd 0 0 (0 : Int32) := ⟨by decide, by decide⟩
          refine lv_if_eq (tgt := 186) hx hb dX0_readAbove_158 (by decide) (fun c_99 => ?_) (fun c_99 => ?_)
          · have fc_99 := eq_f c_99
            have b_100 : bd 0 0 x_98 := eqX fc_99 bx_98 kb_0 (by decide)
            refine lv_aload_n hx hb dX0_readAbove_186 rfl (lv_at hl 5 rfl) ?_
            refine g_getk (C := RX0) (T := TX0) (N := 14) hx hb hts (mc_ inX0) hown hK g rfl 0 (by decide) rfl (hts _ (List.mem_cons_of_mem _ t_373)) (fun _ h9 => h9) 7 rfl dX0_readAbove_187 ?_
            have go_ := g
            refine g_calli (va_runV (As := []) (rest := []) ⟨hx, hb, hml, hown, hts⟩ (r_X8_kind l dC dI L kd tys fr_87 H.size g.2.2.2.1 q0_ mq0_ kq0_) (cwV 0 hts (gV_ t_1186 t_1119 t_1120 t_184 t_1121) rfl rfl rfl (by decide +kernel) ⟨(Nat.le_of_ble_eq_true rfl), (Nat.le_of_ble_eq_true rfl)⟩) (pre3V g hK mq0_ kq0_ (by decide) (q := (RX8, TX8, 10)) rfl) rfl rfl hl.1 rfl (lv_room (Nat.le_of_ble_eq_true rfl)) dX0_readAbove_190 ⟨(Nat.le_of_ble_eq_true rfl), (Nat.le_of_ble_eq_true rfl)⟩) g hK (by decide) (by decide) (fx' := [(5, 7, q1_, .int x_98), (9, 9, a_45, .ref a_96), (8, 6, q0_, .int x_88), (8, 8, q0_, .int y0_), (7, 0, q2_, .ref a_44), (7, 1, q2_, .int x_21), (9, 1, q3_, .int x_16), (0, 0, a0_, .ref q0_), (0, 1, a0_, .ref q1_), (0, 2, a0_, .ref q2_), (5, 1, q1_, .ref q3_)]) rfl (fun r_101 fr_101 H locs hp hMr_101 g => ?_)
            have hG_102 := eJx.frame hMr_101 go_.2.2.2.1 ma0_ ka0_ (by decide) (by decide) hG_91
            have hG_103 := cOK.frame hMr_101 go_.2.2.2.1 mq2_ kq2_ (by decide) (by decide) hG_92
            have hG_104 := dOK.frame hMr_101 go_.2.2.2.1 mq2_ kq2_ (by decide) (by decide) hG_93
            have hG_105 := jS.frame hMr_101 go_.2.2.2.1 mq2_ kq2_ (by decide) (by decide) hG_94
            have hG_106 := eOK.frame hMr_101 go_.2.2.2.1 ma0_ ka0_ (by decide) (by decide) hG_95
            refine lv_bipush (v := 40) hx hb dX0_readAbove_193 (by decide) ?_
            have kb_40 : bd 40 40 (40 : Int32) := ⟨by decide, by decide⟩
            refine lv_icmp_eq (tgt := 214) hx hb dX0_readAbove_195 (by decide) (fun c_107 => ?_) (fun c_107 => ?_)
            · have fc_107 := eq_f c_107
              have b_108 : bd 40 40 r_101 := eqX fc_107 (bdT r_101) kb_40 (by decide)
              refine lv_aload_n hx hb dX0_readAbove_214 rfl (lv_at hl 5 rfl) ?_
              refine lv_iconst (v := 3) hx hb dX0_readAbove_215 (by decide) ?_
              refine lv_iload_n hx hb dX0_readAbove_216 rfl (lv_at hl 2 rfl) ?_
              refine lv_iload hx hb dX0_readAbove_217 (lv_at hl 0 rfl) ?_
              refine lv_aload_n hx hb dX0_readAbove_219 rfl (lv_at hl 5 rfl) ?_
              refine g_getk (C := RX0) (T := TX0) (N := 14) hx hb hts (mc_ inX0) hown hK g rfl 2 (by decide) rfl (hts _ (List.mem_cons_of_mem _ t_375)) (fun _ h9 => h9) 9 rfl dX0_readAbove_220 ?_
              refine g_getr (K := 137) (C := RX7) (T := TX7) (N := 19) hx hb hts (mc_ inX7) hown hK g mq2_ kq2_ (by decide) rfl 2 (by decide) rfl (hts _ (List.mem_cons_of_mem _ t_633)) (fun _ h9 => h9) rfl dX0_readAbove_223 (fun a_109 ma_109 ka_109 g => ?_)
              refine lv_iload hx hb dX0_readAbove_226 (lv_at hl 0 rfl) ?_
              refine g_aald hx hb hK g ma_109 ka_109 (by decide) rfl (by decide) (in_bd bx_97 (by decide)) dX0_readAbove_228 (fun a_110 ma_110 ua_110 wa_110 => ?_)
              have ka_110 : kd a_110 = 6 := by omega
              refine g_geti (C := RX6) (T := TX6) (N := 13) hx hb hts (mc_ inX6) hown hK g ma_110 ka_110 (by decide) rfl 3 (by decide) rfl (hts _ (List.mem_cons_of_mem _ t_564)) (fun _ h9 => h9) rfl dX0_readAbove_229 (fun x_111 bx_111 g => ?_)
              have go_ := g
              refine g_callv (va_runV (As := [.int 3, .int r_58, .int x_97, .int x_111]) (rest := []) ⟨hx, hb, hml, hown, hts⟩ (r_X0_openCall_4 l dC dI L kd tys fr_101 H.size g.2.2.2.1 a0_ ma0_ ka0_ 3 kb_3 r_58 x_97 bx_97 x_111 q0_ mq0_ kq0_ q2_ mq2_ kq2_ y0_ by0_ T_ (fun j9 => jOK fr_101 q2_ j9) hG_102 hG_103 hG_104 (fun _ h9 => h9) hG_106 (g.fcts [9, 11, 5] rfl)) (cwV 4 hts (gV_ t_1247 t_1249 t_23 t_190 t_1250) rfl rfl rfl (by decide +kernel) ⟨(Nat.le_of_ble_eq_true rfl), (Nat.le_of_ble_eq_true rfl)⟩) (pre3V g hK ma0_ ka0_ (by decide) (q := (RX0, TX0, 14)) rfl) rfl rfl hl.1 rfl (lv_room (Nat.le_of_ble_eq_true rfl)) dX0_readAbove_232 ⟨(Nat.le_of_ble_eq_true rfl), (Nat.le_of_ble_eq_true rfl)⟩) g hK (by decide) (by decide) (fx' := [(6, 3, a_110, .int x_111), (7, 2, q2_, .ref a_109), (5, 7, q1_, .int x_98), (9, 9, a_45, .ref a_96), (7, 0, q2_, .ref a_44), (7, 1, q2_, .int x_21), (9, 1, q3_, .int x_16), (0, 0, a0_, .ref q0_), (0, 1, a0_, .ref q1_), (0, 2, a0_, .ref q2_), (5, 1, q1_, .ref q3_)]) rfl (fun fr_112 H locs hp hMr_112 g => ?_)
              rcases hp with ⟨hG_113, hG_114, hG_115, hG_116, hG_117, x_118, h_119, x_120, h_121, hF_122⟩ | ⟨hG_123, hG_124, x_125, h_126, hF_127⟩
              · have g := g.more hF_122
                have hs_128 := jS.mv hG_105 hG_116
                subst hQ
                exact W.vret hx hb hr (fun t ht hW => ⟨⟨_, rfl, Or.inl ⟨hG_113, hG_114, hG_115, hs_128, hG_117, x_118, h_119, x_120, h_121, x_21, h_22, x_16, b_43, (g.fcts [0, 1, 2, 8, 9] rfl)⟩, q3_of g hK ht hW⟩, g.2.2.1.F ht⟩) g.2.2.1.2.2 dX0_readAbove_235
              · have g := g.more hF_127
                subst hQ
                exact W.vret hx hb hr (fun t ht hW => ⟨⟨_, rfl, Or.inr (⟨hG_123, hG_124, x_125, h_126, (g.fcts [0, 1] rfl)⟩), q3_of g hK ht hW⟩, g.2.2.1.F ht⟩) g.2.2.1.2.2 dX0_readAbove_235
            · have fc_107 := neq_f c_107
              refine lv_aload_n hx hb dX0_readAbove_198 rfl (lv_at hl 5 rfl) ?_
              refine g_getk (C := RX0) (T := TX0) (N := 14) hx hb hts (mc_ inX0) hown hK g rfl 0 (by decide) rfl (hts _ (List.mem_cons_of_mem _ t_373)) (fun _ h9 => h9) 7 rfl dX0_readAbove_199 ?_
              refine lv_iconst (v := 1) hx hb dX0_readAbove_202 (by decide) ?_
              refine lv_aload_n hx hb dX0_readAbove_203 rfl (lv_at hl 5 rfl) ?_
              refine g_getk (C := RX0) (T := TX0) (N := 14) hx hb hts (mc_ inX0) hown hK g rfl 0 (by decide) rfl (hts _ (List.mem_cons_of_mem _ t_373)) (fun _ h9 => h9) 7 rfl dX0_readAbove_204 ?_
              have go_ := g
              refine g_calli (va_runV (As := []) (rest := [.int 1, .ref q0_]) ⟨hx, hb, hml, hown, hts⟩ (r_X8_place l dC dI L kd tys fr_101 H.size g.2.2.2.1 q0_ mq0_ kq0_) (cwV 0 hts (gV_ t_1220 t_1111 t_1112 t_184 t_1113) rfl rfl rfl (by decide +kernel) ⟨(Nat.le_of_ble_eq_true rfl), (Nat.le_of_ble_eq_true rfl)⟩) (pre3V g hK mq0_ kq0_ (by decide) (q := (RX8, TX8, 10)) rfl) rfl rfl hl.1 rfl (lv_room (Nat.le_of_ble_eq_true rfl)) dX0_readAbove_207 ⟨(Nat.le_of_ble_eq_true rfl), (Nat.le_of_ble_eq_true rfl)⟩) g hK (by decide) (by decide) (fx' := [(5, 7, q1_, .int x_98), (9, 9, a_45, .ref a_96), (8, 6, q0_, .int x_88), (8, 8, q0_, .int y0_), (7, 0, q2_, .ref a_44), (7, 1, q2_, .int x_21), (9, 1, q3_, .int x_16), (0, 0, a0_, .ref q0_), (0, 1, a0_, .ref q1_), (0, 2, a0_, .ref q2_), (5, 1, q1_, .ref q3_)]) rfl (fun r_129 fr_129 H locs hp hMr_129 g => ?_)
              have hG_130 := eJx.frame hMr_129 go_.2.2.2.1 ma0_ ka0_ (by decide) (by decide) hG_102
              have hG_131 := cOK.frame hMr_129 go_.2.2.2.1 mq2_ kq2_ (by decide) (by decide) hG_103
              have hG_132 := dOK.frame hMr_129 go_.2.2.2.1 mq2_ kq2_ (by decide) (by decide) hG_104
              have hG_133 := jS.frame hMr_129 go_.2.2.2.1 mq2_ kq2_ (by decide) (by decide) hG_105
              have hG_134 := eOK.frame hMr_129 go_.2.2.2.1 ma0_ ka0_ (by decide) (by decide) hG_106
              have kb_1 : bd 1 1 (1 : Int32) := ⟨by decide, by decide⟩
              have go_ := g
              refine g_callv (va_runV (As := [.int 1, .int r_129]) (rest := []) ⟨hx, hb, hml, hown, hts⟩ (r_X8_fail l dC dI L kd tys fr_129 H.size g.2.2.2.1 q0_ mq0_ kq0_ 1 (bd_sub kb_1 (by decide)) r_129 y0_ by0_ (g.fcts [3] rfl)) (cwV 2 hts (gV_ t_1215 t_1107 t_1108 t_184 t_1109) rfl rfl rfl (by decide +kernel) ⟨(Nat.le_of_ble_eq_true rfl), (Nat.le_of_ble_eq_true rfl)⟩) (pre3V g hK mq0_ kq0_ (by decide) (q := (RX8, TX8, 10)) rfl) rfl rfl hl.1 rfl (lv_room (Nat.le_of_ble_eq_true rfl)) dX0_readAbove_210 ⟨(Nat.le_of_ble_eq_true rfl), (Nat.le_of_ble_eq_true rfl)⟩) g hK (by decide) (by decide) (fx' := [(5, 7, q1_, .int x_98), (9, 9, a_45, .ref a_96), (7, 0, q2_, .ref a_44), (7, 1, q2_, .int x_21), (9, 1, q3_, .int x_16), (0, 0, a0_, .ref q0_), (0, 1, a0_, .ref q1_), (0, 2, a0_, .ref q2_), (5, 1, q1_, .ref q3_)]) rfl (fun fr_135 H locs hp hMr_135 g => ?_)
              obtain ⟨x_136, h_137, hF_138⟩ := hp
              have hG_139 := eJx.frame hMr_135 go_.2.2.2.1 ma0_ ka0_ (by decide) (by decide) hG_130
              have hG_140 := cOK.frame hMr_135 go_.2.2.2.1 mq2_ kq2_ (by decide) (by decide) hG_131
              have hG_141 := dOK.frame hMr_135 go_.2.2.2.1 mq2_ kq2_ (by decide) (by decide) hG_132
              have hG_142 := jS.frame hMr_135 go_.2.2.2.1 mq2_ kq2_ (by decide) (by decide) hG_133
              have hG_143 := eOK.frame hMr_135 go_.2.2.2.1 ma0_ ka0_ (by decide) (by decide) hG_134
              have g := g.more hF_138
              subst hQ
              exact W.vret hx hb hr (fun t ht hW => ⟨⟨_, rfl, Or.inr (⟨hG_141, hG_143, x_136, h_137, (g.fcts [0, 1] rfl)⟩), q3_of g hK ht hW⟩, g.2.2.1.F ht⟩) g.2.2.1.2.2 dX0_readAbove_213
          · have fc_99 := neq_f c_99
            have b_144 : bd 1 1 x_98 := neX fc_99 bx_98 kb_0 (by decide)
            refine lv_aload_n hx hb dX0_readAbove_161 rfl (lv_at hl 5 rfl) ?_
            refine g_getk (C := RX0) (T := TX0) (N := 14) hx hb hts (mc_ inX0) hown hK g rfl 2 (by decide) rfl (hts _ (List.mem_cons_of_mem _ t_375)) (fun _ h9 => h9) 9 rfl dX0_readAbove_162 ?_
            refine g_getr (K := 137) (C := RX7) (T := TX7) (N := 19) hx hb hts (mc_ inX7) hown hK g mq2_ kq2_ (by decide) rfl 2 (by decide) rfl (hts _ (List.mem_cons_of_mem _ t_633)) (fun _ h9 => h9) rfl dX0_readAbove_165 (fun a_145 ma_145 ka_145 g => ?_)
            refine lv_iload hx hb dX0_readAbove_168 (lv_at hl 0 rfl) ?_
            refine g_aald hx hb hK g ma_145 ka_145 (by decide) rfl (by decide) (in_bd bx_97 (by decide)) dX0_readAbove_170 (fun a_146 ma_146 ua_146 wa_146 => ?_)
            have ka_146 : kd a_146 = 6 := by omega
            refine g_geti (C := RX6) (T := TX6) (N := 13) hx hb hts (mc_ inX6) hown hK g ma_146 ka_146 (by decide) rfl 6 (by decide) rfl (hts _ (List.mem_cons_of_mem _ t_577)) (fun _ h9 => h9) rfl dX0_readAbove_171 (fun x_147 bx_147 g => ?_)
            refine lv_if_ne (tgt := 186) hx hb dX0_readAbove_174 (by decide) (fun c_148 => ?_) (fun c_148 => ?_)
            · have fc_148 := neq_f c_148
              have b_149 : bd 1 1 x_147 := neX fc_148 bx_147 kb_0 (by decide)
              refine lv_aload_n hx hb dX0_readAbove_186 rfl (lv_at hl 5 rfl) ?_
              refine g_getk (C := RX0) (T := TX0) (N := 14) hx hb hts (mc_ inX0) hown hK g rfl 0 (by decide) rfl (hts _ (List.mem_cons_of_mem _ t_373)) (fun _ h9 => h9) 9 rfl dX0_readAbove_187 ?_
              have go_ := g
              refine g_calli (va_runV (As := []) (rest := []) ⟨hx, hb, hml, hown, hts⟩ (r_X8_kind l dC dI L kd tys fr_87 H.size g.2.2.2.1 q0_ mq0_ kq0_) (cwV 0 hts (gV_ t_1186 t_1119 t_1120 t_184 t_1121) rfl rfl rfl (by decide +kernel) ⟨(Nat.le_of_ble_eq_true rfl), (Nat.le_of_ble_eq_true rfl)⟩) (pre3V g hK mq0_ kq0_ (by decide) (q := (RX8, TX8, 10)) rfl) rfl rfl hl.1 rfl (lv_room (Nat.le_of_ble_eq_true rfl)) dX0_readAbove_190 ⟨(Nat.le_of_ble_eq_true rfl), (Nat.le_of_ble_eq_true rfl)⟩) g hK (by decide) (by decide) (fx' := [(6, 6, a_146, .int x_147), (7, 2, q2_, .ref a_145), (5, 7, q1_, .int x_98), (9, 9, a_45, .ref a_96), (8, 6, q0_, .int x_88), (8, 8, q0_, .int y0_), (7, 0, q2_, .ref a_44), (7, 1, q2_, .int x_21), (9, 1, q3_, .int x_16), (0, 0, a0_, .ref q0_), (0, 1, a0_, .ref q1_), (0, 2, a0_, .ref q2_), (5, 1, q1_, .ref q3_)]) rfl (fun r_150 fr_150 H locs hp hMr_150 g => ?_)
              have hG_151 := eJx.frame hMr_150 go_.2.2.2.1 ma0_ ka0_ (by decide) (by decide) hG_91
              have hG_152 := cOK.frame hMr_150 go_.2.2.2.1 mq2_ kq2_ (by decide) (by decide) hG_92
              have hG_153 := dOK.frame hMr_150 go_.2.2.2.1 mq2_ kq2_ (by decide) (by decide) hG_93
              have hG_154 := jS.frame hMr_150 go_.2.2.2.1 mq2_ kq2_ (by decide) (by decide) hG_94
              have hG_155 := eOK.frame hMr_150 go_.2.2.2.1 ma0_ ka0_ (by decide) (by decide) hG_95
              refine lv_bipush (v := 40) hx hb dX0_readAbove_193 (by decide) ?_
              have kb_40 : bd 40 40 (40 : Int32) := ⟨by decide, by decide⟩
              refine lv_icmp_eq (tgt := 214) hx hb dX0_readAbove_195 (by decide) (fun c_156 => ?_) (fun c_156 => ?_)
              · have fc_156 := eq_f c_156
                have b_157 : bd 40 40 r_150 := eqX fc_156 (bdT r_150) kb_40 (by decide)
                refine lv_aload_n hx hb dX0_readAbove_214 rfl (lv_at hl 5 rfl) ?_
                refine lv_iconst (v := 3) hx hb dX0_readAbove_215 (by decide) ?_
                refine lv_iload_n hx hb dX0_readAbove_216 rfl (lv_at hl 2 rfl) ?_
                refine lv_iload hx hb dX0_readAbove_217 (lv_at hl 0 rfl) ?_
                refine lv_aload_n hx hb dX0_readAbove_219 rfl (lv_at hl 5 rfl) ?_
                refine g_getk (C := RX0) (T := TX0) (N := 14) hx hb hts (mc_ inX0) hown hK g rfl 2 (by decide) rfl (hts _ (List.mem_cons_of_mem _ t_375)) (fun _ h9 => h9) 11 rfl dX0_readAbove_220 ?_
                refine g_getk (C := RX7) (T := TX7) (N := 19) hx hb hts (mc_ inX7) hown hK g rfl 2 (by decide) rfl (hts _ (List.mem_cons_of_mem _ t_633)) (fun _ h9 => h9) 1 rfl dX0_readAbove_223 ?_
                refine lv_iload hx hb dX0_readAbove_226 (lv_at hl 0 rfl) ?_
                refine g_aald hx hb hK g ma_145 ka_145 (by decide) rfl (by decide) (in_bd bx_97 (by decide)) dX0_readAbove_228 (fun a_158 ma_158 ua_158 wa_158 => ?_)
                have ka_158 : kd a_158 = 6 := by omega
                refine g_geti (C := RX6) (T := TX6) (N := 13) hx hb hts (mc_ inX6) hown hK g ma_158 ka_158 (by decide) rfl 3 (by decide) rfl (hts _ (List.mem_cons_of_mem _ t_564)) (fun _ h9 => h9) rfl dX0_readAbove_229 (fun x_159 bx_159 g => ?_)
                have go_ := g
                refine g_callv (va_runV (As := [.int 3, .int r_58, .int x_97, .int x_159]) (rest := []) ⟨hx, hb, hml, hown, hts⟩ (r_X0_openCall_4 l dC dI L kd tys fr_150 H.size g.2.2.2.1 a0_ ma0_ ka0_ 3 kb_3 r_58 x_97 bx_97 x_159 q0_ mq0_ kq0_ q2_ mq2_ kq2_ y0_ by0_ T_ (fun j9 => jOK fr_150 q2_ j9) hG_151 hG_152 hG_153 (fun _ h9 => h9) hG_155 (g.fcts [10, 12, 6] rfl)) (cwV 4 hts (gV_ t_1247 t_1249 t_23 t_190 t_1250) rfl rfl rfl (by decide +kernel) ⟨(Nat.le_of_ble_eq_true rfl), (Nat.le_of_ble_eq_true rfl)⟩) (pre3V g hK ma0_ ka0_ (by decide) (q := (RX0, TX0, 14)) rfl) rfl rfl hl.1 rfl (lv_room (Nat.le_of_ble_eq_true rfl)) dX0_readAbove_232 ⟨(Nat.le_of_ble_eq_true rfl), (Nat.le_of_ble_eq_true rfl)⟩) g hK (by decide) (by decide) (fx' := [(6, 3, a_158, .int x_159), (6, 6, a_146, .int x_147), (7, 2, q2_, .ref a_145), (5, 7, q1_, .int x_98), (9, 9, a_45, .ref a_96), (7, 0, q2_, .ref a_44), (7, 1, q2_, .int x_21), (9, 1, q3_, .int x_16), (0, 0, a0_, .ref q0_), (0, 1, a0_, .ref q1_), (0, 2, a0_, .ref q2_), (5, 1, q1_, .ref q3_)]) rfl (fun fr_160 H locs hp hMr_160 g => ?_)
                rcases hp with ⟨hG_161, hG_162, hG_163, hG_164, hG_165, x_166, h_167, x_168, h_169, hF_170⟩ | ⟨hG_171, hG_172, x_173, h_174, hF_175⟩
                · have g := g.more hF_170
                  have hs_176 := jS.mv hG_154 hG_164
                  subst hQ
                  exact W.vret hx hb hr (fun t ht hW => ⟨⟨_, rfl, Or.inl ⟨hG_161, hG_162, hG_163, hs_176, hG_165, x_166, h_167, x_168, h_169, x_21, h_22, x_16, b_43, (g.fcts [0, 1, 2, 9, 10] rfl)⟩, q3_of g hK ht hW⟩, g.2.2.1.F ht⟩) g.2.2.1.2.2 dX0_readAbove_235
                · have g := g.more hF_175
                  subst hQ
                  exact W.vret hx hb hr (fun t ht hW => ⟨⟨_, rfl, Or.inr (⟨hG_171, hG_172, x_173, h_174, (g.fcts [0, 1] rfl)⟩), q3_of g hK ht hW⟩, g.2.2.1.F ht⟩) g.2.2.1.2.2 dX0_readAbove_235
              · have fc_156 := neq_f c_156
                refine lv_aload_n hx hb dX0_readAbove_198 rfl (lv_at hl 5 rfl) ?_
                refine g_getk (C := RX0) (T := TX0) (N := 14) hx hb hts (mc_ inX0) hown hK g rfl 0 (by decide) rfl (hts _ (List.mem_cons_of_mem _ t_373)) (fun _ h9 => h9) 9 rfl dX0_readAbove_199 ?_
                refine lv_iconst (v := 1) hx hb dX0_readAbove_202 (by decide) ?_
                refine lv_aload_n hx hb dX0_readAbove_203 rfl (lv_at hl 5 rfl) ?_
                refine g_getk (C := RX0) (T := TX0) (N := 14) hx hb hts (mc_ inX0) hown hK g rfl 0 (by decide) rfl (hts _ (List.mem_cons_of_mem _ t_373)) (fun _ h9 => h9) 9 rfl dX0_readAbove_204 ?_
                have go_ := g
                refine g_calli (va_runV (As := []) (rest := [.int 1, .ref q0_]) ⟨hx, hb, hml, hown, hts⟩ (r_X8_place l dC dI L kd tys fr_150 H.size g.2.2.2.1 q0_ mq0_ kq0_) (cwV 0 hts (gV_ t_1220 t_1111 t_1112 t_184 t_1113) rfl rfl rfl (by decide +kernel) ⟨(Nat.le_of_ble_eq_true rfl), (Nat.le_of_ble_eq_true rfl)⟩) (pre3V g hK mq0_ kq0_ (by decide) (q := (RX8, TX8, 10)) rfl) rfl rfl hl.1 rfl (lv_room (Nat.le_of_ble_eq_true rfl)) dX0_readAbove_207 ⟨(Nat.le_of_ble_eq_true rfl), (Nat.le_of_ble_eq_true rfl)⟩) g hK (by decide) (by decide) (fx' := [(6, 6, a_146, .int x_147), (7, 2, q2_, .ref a_145), (5, 7, q1_, .int x_98), (9, 9, a_45, .ref a_96), (8, 6, q0_, .int x_88), (8, 8, q0_, .int y0_), (7, 0, q2_, .ref a_44), (7, 1, q2_, .int x_21), (9, 1, q3_, .int x_16), (0, 0, a0_, .ref q0_), (0, 1, a0_, .ref q1_), (0, 2, a0_, .ref q2_), (5, 1, q1_, .ref q3_)]) rfl (fun r_177 fr_177 H locs hp hMr_177 g => ?_)
                have hG_178 := eJx.frame hMr_177 go_.2.2.2.1 ma0_ ka0_ (by decide) (by decide) hG_151
                have hG_179 := cOK.frame hMr_177 go_.2.2.2.1 mq2_ kq2_ (by decide) (by decide) hG_152
                have hG_180 := dOK.frame hMr_177 go_.2.2.2.1 mq2_ kq2_ (by decide) (by decide) hG_153
                have hG_181 := jS.frame hMr_177 go_.2.2.2.1 mq2_ kq2_ (by decide) (by decide) hG_154
                have hG_182 := eOK.frame hMr_177 go_.2.2.2.1 ma0_ ka0_ (by decide) (by decide) hG_155
                have kb_1 : bd 1 1 (1 : Int32) := ⟨by decide, by decide⟩
                have go_ := g
                refine g_callv (va_runV (As := [.int 1, .int r_177]) (rest := []) ⟨hx, hb, hml, hown, hts⟩ (r_X8_fail l dC dI L kd tys fr_177 H.size g.2.2.2.1 q0_ mq0_ kq0_ 1 (bd_sub kb_1 (by decide)) r_177 y0_ by0_ (g.fcts [5] rfl)) (cwV 2 hts (gV_ t_1215 t_1107 t_1108 t_184 t_1109) rfl rfl rfl (by decide +kernel) ⟨(Nat.le_of_ble_eq_true rfl), (Nat.le_of_ble_eq_true rfl)⟩) (pre3V g hK mq0_ kq0_ (by decide) (q := (RX8, TX8, 10)) rfl) rfl rfl hl.1 rfl (lv_room (Nat.le_of_ble_eq_true rfl)) dX0_readAbove_210 ⟨(Nat.le_of_ble_eq_true rfl), (Nat.le_of_ble_eq_true rfl)⟩) g hK (by decide) (by decide) (fx' := [(6, 6, a_146, .int x_147), (7, 2, q2_, .ref a_145), (5, 7, q1_, .int x_98), (9, 9, a_45, .ref a_96), (7, 0, q2_, .ref a_44), (7, 1, q2_, .int x_21), (9, 1, q3_, .int x_16), (0, 0, a0_, .ref q0_), (0, 1, a0_, .ref q1_), (0, 2, a0_, .ref q2_), (5, 1, q1_, .ref q3_)]) rfl (fun fr_183 H locs hp hMr_183 g => ?_)
                obtain ⟨x_184, h_185, hF_186⟩ := hp
                have hG_187 := eJx.frame hMr_183 go_.2.2.2.1 ma0_ ka0_ (by decide) (by decide) hG_178
                have hG_188 := cOK.frame hMr_183 go_.2.2.2.1 mq2_ kq2_ (by decide) (by decide) hG_179
                have hG_189 := dOK.frame hMr_183 go_.2.2.2.1 mq2_ kq2_ (by decide) (by decide) hG_180
                have hG_190 := jS.frame hMr_183 go_.2.2.2.1 mq2_ kq2_ (by decide) (by decide) hG_181
                have hG_191 := eOK.frame hMr_183 go_.2.2.2.1 ma0_ ka0_ (by decide) (by decide) hG_182
                have g := g.more hF_186
                subst hQ
                exact W.vret hx hb hr (fun t ht hW => ⟨⟨_, rfl, Or.inr (⟨hG_189, hG_191, x_184, h_185, (g.fcts [0, 1] rfl)⟩), q3_of g hK ht hW⟩, g.2.2.1.F ht⟩) g.2.2.1.2.2 dX0_readAbove_213
            · have fc_148 := eq_f c_148
              have b_192 : bd 0 0 x_147 := eqX fc_148 bx_147 kb_0 (by decide)
              refine lv_aload_n hx hb dX0_readAbove_177 rfl (lv_at hl 5 rfl) ?_
              refine g_getk (C := RX0) (T := TX0) (N := 14) hx hb hts (mc_ inX0) hown hK g rfl 0 (by decide) rfl (hts _ (List.mem_cons_of_mem _ t_373)) (fun _ h9 => h9) 9 rfl dX0_readAbove_178 ?_
              refine lv_iconst (v := 5) hx hb dX0_readAbove_181 (by decide) ?_
              refine lv_iload_n hx hb dX0_readAbove_182 rfl (lv_at hl 2 rfl) ?_
              have kb_5 : bd 5 5 (5 : Int32) := ⟨by decide, by decide⟩
              have go_ := g
              refine g_callv (va_runV (As := [.int 5, .int r_58]) (rest := []) ⟨hx, hb, hml, hown, hts⟩ (r_X8_fail l dC dI L kd tys fr_87 H.size g.2.2.2.1 q0_ mq0_ kq0_ 5 (bd_sub kb_5 (by decide)) r_58 y0_ by0_ (g.fcts [5] rfl)) (cwV 2 hts (gV_ t_1215 t_1107 t_1108 t_184 t_1109) rfl rfl rfl (by decide +kernel) ⟨(Nat.le_of_ble_eq_true rfl), (Nat.le_of_ble_eq_true rfl)⟩) (pre3V g hK mq0_ kq0_ (by decide) (q := (RX8, TX8, 10)) rfl) rfl rfl hl.1 rfl (lv_room (Nat.le_of_ble_eq_true rfl)) dX0_readAbove_183 ⟨(Nat.le_of_ble_eq_true rfl), (Nat.le_of_ble_eq_true rfl)⟩) g hK (by decide) (by decide) (fx' := [(6, 6, a_146, .int x_147), (7, 2, q2_, .ref a_145), (5, 7, q1_, .int x_98), (9, 9, a_45, .ref a_96), (7, 0, q2_, .ref a_44), (7, 1, q2_, .int x_21), (9, 1, q3_, .int x_16), (0, 0, a0_, .ref q0_), (0, 1, a0_, .ref q1_), (0, 2, a0_, .ref q2_), (5, 1, q1_, .ref q3_)]) rfl (fun fr_193 H locs hp hMr_193 g => ?_)
              obtain ⟨x_194, h_195, hF_196⟩ := hp
              have hG_197 := eJx.frame hMr_193 go_.2.2.2.1 ma0_ ka0_ (by decide) (by decide) hG_91
              have hG_198 := cOK.frame hMr_193 go_.2.2.2.1 mq2_ kq2_ (by decide) (by decide) hG_92
              have hG_199 := dOK.frame hMr_193 go_.2.2.2.1 mq2_ kq2_ (by decide) (by decide) hG_93
              have hG_200 := jS.frame hMr_193 go_.2.2.2.1 mq2_ kq2_ (by decide) (by decide) hG_94
              have hG_201 := eOK.frame hMr_193 go_.2.2.2.1 ma0_ ka0_ (by decide) (by decide) hG_95
              have g := g.more hF_196
              refine lv_aload_n hx hb dX0_readAbove_186 rfl (lv_at hl 5 rfl) ?_
              refine g_getk (C := RX0) (T := TX0) (N := 14) hx hb hts (mc_ inX0) hown hK g rfl 0 (by decide) rfl (hts _ (List.mem_cons_of_mem _ t_373)) (fun _ h9 => h9) 9 rfl dX0_readAbove_187 ?_
              have kb_1201 : bd 1201 1201 (1201 : Int32) := ⟨by decide, by decide⟩
              have go_ := g
              refine g_calli (va_runV (As := []) (rest := []) ⟨hx, hb, hml, hown, hts⟩ (r_X8_kind_2 l dC dI L kd tys fr_193 H.size g.2.2.2.1 q0_ mq0_ kq0_ 1201 kb_1201 (g.fcts [0] rfl)) (cwV 0 hts (gV_ t_1186 t_1119 t_1120 t_184 t_1121) rfl rfl rfl (by decide +kernel) ⟨(Nat.le_of_ble_eq_true rfl), (Nat.le_of_ble_eq_true rfl)⟩) (pre3V g hK mq0_ kq0_ (by decide) (q := (RX8, TX8, 10)) rfl) rfl rfl hl.1 rfl (lv_room (Nat.le_of_ble_eq_true rfl)) dX0_readAbove_190 ⟨(Nat.le_of_ble_eq_true rfl), (Nat.le_of_ble_eq_true rfl)⟩) g hK (by decide) (by decide) (fx' := [(8, 6, q0_, .int 1201), (8, 8, q0_, .int x_194), (6, 6, a_146, .int x_147), (7, 2, q2_, .ref a_145), (5, 7, q1_, .int x_98), (9, 9, a_45, .ref a_96), (7, 0, q2_, .ref a_44), (7, 1, q2_, .int x_21), (9, 1, q3_, .int x_16), (0, 0, a0_, .ref q0_), (0, 1, a0_, .ref q1_), (0, 2, a0_, .ref q2_), (5, 1, q1_, .ref q3_)]) rfl (fun r_202 fr_202 H locs hp hMr_202 g => ?_)
              obtain ⟨h_203, -⟩ := hp
              have hG_204 := eJx.frame hMr_202 go_.2.2.2.1 ma0_ ka0_ (by decide) (by decide) hG_197
              have hG_205 := cOK.frame hMr_202 go_.2.2.2.1 mq2_ kq2_ (by decide) (by decide) hG_198
              have hG_206 := dOK.frame hMr_202 go_.2.2.2.1 mq2_ kq2_ (by decide) (by decide) hG_199
              have hG_207 := jS.frame hMr_202 go_.2.2.2.1 mq2_ kq2_ (by decide) (by decide) hG_200
              have hG_208 := eOK.frame hMr_202 go_.2.2.2.1 ma0_ ka0_ (by decide) (by decide) hG_201
              obtain rfl : r_202 = 0 := h_203
              refine lv_bipush (v := 40) hx hb dX0_readAbove_193 (by decide) ?_
              refine lv_icmp_eq (tgt := 214) hx hb dX0_readAbove_195 (by decide) (fun c_ => absurd c_ (by decide)) (fun c_ => ?_)
              refine lv_aload_n hx hb dX0_readAbove_198 rfl (lv_at hl 5 rfl) ?_
              refine g_getk (C := RX0) (T := TX0) (N := 14) hx hb hts (mc_ inX0) hown hK g rfl 0 (by decide) rfl (hts _ (List.mem_cons_of_mem _ t_373)) (fun _ h9 => h9) 9 rfl dX0_readAbove_199 ?_
              refine lv_iconst (v := 1) hx hb dX0_readAbove_202 (by decide) ?_
              refine lv_aload_n hx hb dX0_readAbove_203 rfl (lv_at hl 5 rfl) ?_
              refine g_getk (C := RX0) (T := TX0) (N := 14) hx hb hts (mc_ inX0) hown hK g rfl 0 (by decide) rfl (hts _ (List.mem_cons_of_mem _ t_373)) (fun _ h9 => h9) 9 rfl dX0_readAbove_204 ?_
              have go_ := g
              refine g_calli (va_runV (As := []) (rest := [.int 1, .ref q0_]) ⟨hx, hb, hml, hown, hts⟩ (r_X8_place l dC dI L kd tys fr_202 H.size g.2.2.2.1 q0_ mq0_ kq0_) (cwV 0 hts (gV_ t_1220 t_1111 t_1112 t_184 t_1113) rfl rfl rfl (by decide +kernel) ⟨(Nat.le_of_ble_eq_true rfl), (Nat.le_of_ble_eq_true rfl)⟩) (pre3V g hK mq0_ kq0_ (by decide) (q := (RX8, TX8, 10)) rfl) rfl rfl hl.1 rfl (lv_room (Nat.le_of_ble_eq_true rfl)) dX0_readAbove_207 ⟨(Nat.le_of_ble_eq_true rfl), (Nat.le_of_ble_eq_true rfl)⟩) g hK (by decide) (by decide) (fx' := [(8, 6, q0_, .int 1201), (8, 8, q0_, .int x_194), (6, 6, a_146, .int x_147), (7, 2, q2_, .ref a_145), (5, 7, q1_, .int x_98), (9, 9, a_45, .ref a_96), (7, 0, q2_, .ref a_44), (7, 1, q2_, .int x_21), (9, 1, q3_, .int x_16), (0, 0, a0_, .ref q0_), (0, 1, a0_, .ref q1_), (0, 2, a0_, .ref q2_), (5, 1, q1_, .ref q3_)]) rfl (fun r_209 fr_209 H locs hp hMr_209 g => ?_)
              have hG_210 := eJx.frame hMr_209 go_.2.2.2.1 ma0_ ka0_ (by decide) (by decide) hG_204
              have hG_211 := cOK.frame hMr_209 go_.2.2.2.1 mq2_ kq2_ (by decide) (by decide) hG_205
              have hG_212 := dOK.frame hMr_209 go_.2.2.2.1 mq2_ kq2_ (by decide) (by decide) hG_206
              have hG_213 := jS.frame hMr_209 go_.2.2.2.1 mq2_ kq2_ (by decide) (by decide) hG_207
              have hG_214 := eOK.frame hMr_209 go_.2.2.2.1 ma0_ ka0_ (by decide) (by decide) hG_208
              have kb_1 : bd 1 1 (1 : Int32) := ⟨by decide, by decide⟩
              have go_ := g
              refine g_callv (va_runV (As := [.int 1, .int r_209]) (rest := []) ⟨hx, hb, hml, hown, hts⟩ (r_X8_fail_2 l dC dI L kd tys fr_209 H.size g.2.2.2.1 q0_ mq0_ kq0_ 1 (bd_sub kb_1 (by decide)) r_209 x_194 h_195 (g.fcts [1] rfl)) (cwV 2 hts (gV_ t_1215 t_1107 t_1108 t_184 t_1109) rfl rfl rfl (by decide +kernel) ⟨(Nat.le_of_ble_eq_true rfl), (Nat.le_of_ble_eq_true rfl)⟩) (pre3V g hK mq0_ kq0_ (by decide) (q := (RX8, TX8, 10)) rfl) rfl rfl hl.1 rfl (lv_room (Nat.le_of_ble_eq_true rfl)) dX0_readAbove_210 ⟨(Nat.le_of_ble_eq_true rfl), (Nat.le_of_ble_eq_true rfl)⟩) g hK (by decide) (by decide) (fx' := [(8, 8, q0_, .int x_194), (6, 6, a_146, .int x_147), (7, 2, q2_, .ref a_145), (5, 7, q1_, .int x_98), (9, 9, a_45, .ref a_96), (7, 0, q2_, .ref a_44), (7, 1, q2_, .int x_21), (9, 1, q3_, .int x_16), (0, 0, a0_, .ref q0_), (0, 1, a0_, .ref q1_), (0, 2, a0_, .ref q2_), (5, 1, q1_, .ref q3_)]) rfl (fun fr_215 H locs hp hMr_215 g => ?_)
              have hF_216 := hp
              have hG_217 := eJx.frame hMr_215 go_.2.2.2.1 ma0_ ka0_ (by decide) (by decide) hG_210
              have hG_218 := cOK.frame hMr_215 go_.2.2.2.1 mq2_ kq2_ (by decide) (by decide) hG_211
              have hG_219 := dOK.frame hMr_215 go_.2.2.2.1 mq2_ kq2_ (by decide) (by decide) hG_212
              have hG_220 := jS.frame hMr_215 go_.2.2.2.1 mq2_ kq2_ (by decide) (by decide) hG_213
              have hG_221 := eOK.frame hMr_215 go_.2.2.2.1 ma0_ ka0_ (by decide) (by decide) hG_214
              have g := g.more hF_216
              subst hQ
              exact W.vret hx hb hr (fun t ht hW => ⟨⟨_, rfl, Or.inr (⟨hG_219, hG_221, x_194, h_195, (g.fcts [0, 1] rfl)⟩), q3_of g hK ht hW⟩, g.2.2.1.F ht⟩) g.2.2.1.2.2 dX0_readAbove_213
        · have fc_85 := eq_f c_85
          have b_222 : bd (-1) (-1) r_78 := eqX fc_85 h_79 kb_m1 (by decide)
          refine lv_aload_n hx hb dX0_readAbove_125 rfl (lv_at hl 4 rfl) ?_
          refine g_getk (C := RX0) (T := TX0) (N := 14) hx hb hts (mc_ inX0) hown hK g rfl 0 (by decide) rfl (hts _ (List.mem_cons_of_mem _ t_373)) (fun _ h9 => h9) 5 rfl dX0_readAbove_126 ?_
          refine lv_iconst (v := 2) hx hb dX0_readAbove_129 (by decide) ?_
          refine lv_iload_n hx hb dX0_readAbove_130 rfl (lv_at hl 1 rfl) ?_
          have kb_2 : bd 2 2 (2 : Int32) := ⟨by decide, by decide⟩
          have go_ := g
          refine g_callv (va_runV (As := [.int 2, .int r_58]) (rest := []) ⟨hx, hb, hml, hown, hts⟩ (r_X8_fail l dC dI L kd tys fr_78 H.size g.2.2.2.1 q0_ mq0_ kq0_ 2 (bd_sub kb_2 (by decide)) r_58 y0_ by0_ (g.fcts [1] rfl)) (cwV 2 hts (gV_ t_1215 t_1107 t_1108 t_184 t_1109) rfl rfl rfl (by decide +kernel) ⟨(Nat.le_of_ble_eq_true rfl), (Nat.le_of_ble_eq_true rfl)⟩) (pre3V g hK mq0_ kq0_ (by decide) (q := (RX8, TX8, 10)) rfl) rfl rfl hl.1 rfl (lv_room (Nat.le_of_ble_eq_true rfl)) dX0_readAbove_131 ⟨(Nat.le_of_ble_eq_true rfl), (Nat.le_of_ble_eq_true rfl)⟩) g hK (by decide) (by decide) (fx' := [(7, 0, q2_, .ref a_44), (7, 1, q2_, .int x_21), (9, 1, q3_, .int x_16), (0, 0, a0_, .ref q0_), (0, 1, a0_, .ref q1_), (0, 2, a0_, .ref q2_), (5, 1, q1_, .ref q3_)]) rfl (fun fr_223 H locs hp hMr_223 g => ?_)
          obtain ⟨x_224, h_225, hF_226⟩ := hp
          have hG_227 := eJx.frame hMr_223 go_.2.2.2.1 ma0_ ka0_ (by decide) (by decide) hG_80
          have hG_228 := cOK.frame hMr_223 go_.2.2.2.1 mq2_ kq2_ (by decide) (by decide) hG_81
          have hG_229 := dOK.frame hMr_223 go_.2.2.2.1 mq2_ kq2_ (by decide) (by decide) hG_82
          have hG_230 := jS.frame hMr_223 go_.2.2.2.1 mq2_ kq2_ (by decide) (by decide) hG_83
          have hG_231 := eOK.frame hMr_223 go_.2.2.2.1 ma0_ ka0_ (by decide) (by decide) hG_84
          have g := g.more hF_226
          subst hQ
          exact W.vret hx hb hr (fun t ht hW => ⟨⟨_, rfl, Or.inr (⟨hG_229, hG_231, x_224, h_225, (g.fcts [0, 1] rfl)⟩), q3_of g hK ht hW⟩, g.2.2.1.F ht⟩) g.2.2.1.2.2 dX0_readAbove_134
      · have fc_70 := neq_f c_70
        refine lv_aload_n hx hb dX0_readAbove_92 rfl (lv_at hl 3 rfl) ?_
        refine g_getk (C := RX0) (T := TX0) (N := 14) hx hb hts (mc_ inX0) hown hK g rfl 0 (by decide) rfl (hts _ (List.mem_cons_of_mem _ t_373)) (fun _ h9 => h9) 5 rfl dX0_readAbove_93 ?_
        refine lv_iconst (v := 1) hx hb dX0_readAbove_96 (by decide) ?_
        refine lv_iload_n hx hb dX0_readAbove_97 rfl (lv_at hl 0 rfl) ?_
        have kb_1 : bd 1 1 (1 : Int32) := ⟨by decide, by decide⟩
        have go_ := g
        refine g_callv (va_runV (As := [.int 1, .int r_58]) (rest := []) ⟨hx, hb, hml, hown, hts⟩ (r_X8_fail l dC dI L kd tys fr_64 H.size g.2.2.2.1 q0_ mq0_ kq0_ 1 (bd_sub kb_1 (by decide)) r_58 y0_ by0_ (g.fcts [1] rfl)) (cwV 2 hts (gV_ t_1215 t_1107 t_1108 t_184 t_1109) rfl rfl rfl (by decide +kernel) ⟨(Nat.le_of_ble_eq_true rfl), (Nat.le_of_ble_eq_true rfl)⟩) (pre3V g hK mq0_ kq0_ (by decide) (q := (RX8, TX8, 10)) rfl) rfl rfl hl.1 rfl (lv_room (Nat.le_of_ble_eq_true rfl)) dX0_readAbove_98 ⟨(Nat.le_of_ble_eq_true rfl), (Nat.le_of_ble_eq_true rfl)⟩) g hK (by decide) (by decide) (fx' := [(7, 0, q2_, .ref a_44), (7, 1, q2_, .int x_21), (9, 1, q3_, .int x_16), (0, 0, a0_, .ref q0_), (0, 1, a0_, .ref q1_), (0, 2, a0_, .ref q2_), (5, 1, q1_, .ref q3_)]) rfl (fun fr_232 H locs hp hMr_232 g => ?_)
        obtain ⟨x_233, h_234, hF_235⟩ := hp
        have hG_236 := eJx.frame hMr_232 go_.2.2.2.1 ma0_ ka0_ (by decide) (by decide) hG_65
        have hG_237 := cOK.frame hMr_232 go_.2.2.2.1 mq2_ kq2_ (by decide) (by decide) hG_66
        have hG_238 := dOK.frame hMr_232 go_.2.2.2.1 mq2_ kq2_ (by decide) (by decide) hG_67
        have hG_239 := jS.frame hMr_232 go_.2.2.2.1 mq2_ kq2_ (by decide) (by decide) hG_68
        have hG_240 := eOK.frame hMr_232 go_.2.2.2.1 ma0_ ka0_ (by decide) (by decide) hG_69
        have g := g.more hF_235
        subst hQ
        exact W.vret hx hb hr (fun t ht hW => ⟨⟨_, rfl, Or.inr (⟨hG_238, hG_240, x_233, h_234, (g.fcts [0, 1] rfl)⟩), q3_of g hK ht hW⟩, g.2.2.1.F ht⟩) g.2.2.1.2.2 dX0_readAbove_101
    · have hG_241 := eJx.frame hMr_46 go_.2.2.2.1 ma0_ ka0_ (by decide) (by decide) hG_38
      have hG_242 := cOK.frame hMr_46 go_.2.2.2.1 mq2_ kq2_ (by decide) (by decide) hG_39
      have hG_243 := dOK.frame hMr_46 go_.2.2.2.1 mq2_ kq2_ (by decide) (by decide) hG_40
      have hG_244 := jS.frame hMr_46 go_.2.2.2.1 mq2_ kq2_ (by decide) (by decide) hG_41
      have hG_245 := eOK.frame hMr_46 go_.2.2.2.1 ma0_ ka0_ (by decide) (by decide) hG_42
      have g := g.more hF_52
      refine lv_aload_n hx hb dX0_readAbove_73 rfl (lv_at hl 2 rfl) ?_
      refine g_getk (C := RX0) (T := TX0) (N := 14) hx hb hts (mc_ inX0) hown hK g rfl 0 (by decide) rfl (hts _ (List.mem_cons_of_mem _ t_373)) (fun _ h9 => h9) 5 rfl dX0_readAbove_74 ?_
      have go_ := g
      refine g_calli (va_runV (As := []) (rest := []) ⟨hx, hb, hml, hown, hts⟩ (r_X8_place l dC dI L kd tys fr_46 H.size g.2.2.2.1 q0_ mq0_ kq0_) (cwV 0 hts (gV_ t_1220 t_1111 t_1112 t_184 t_1113) rfl rfl rfl (by decide +kernel) ⟨(Nat.le_of_ble_eq_true rfl), (Nat.le_of_ble_eq_true rfl)⟩) (pre3V g hK mq0_ kq0_ (by decide) (q := (RX8, TX8, 10)) rfl) rfl rfl hl.1 rfl (lv_room (Nat.le_of_ble_eq_true rfl)) dX0_readAbove_77 ⟨(Nat.le_of_ble_eq_true rfl), (Nat.le_of_ble_eq_true rfl)⟩) g hK (by decide) (by decide) (fx' := [(8, 6, q0_, .int 1201), (8, 8, q0_, .int x_50), (7, 0, q2_, .ref a_44), (7, 1, q2_, .int x_21), (9, 1, q3_, .int x_16), (0, 0, a0_, .ref q0_), (0, 1, a0_, .ref q1_), (0, 2, a0_, .ref q2_), (5, 1, q1_, .ref q3_)]) rfl (fun r_246 fr_246 H locs hp hMr_246 g => ?_)
      have hG_247 := eJx.frame hMr_246 go_.2.2.2.1 ma0_ ka0_ (by decide) (by decide) hG_241
      have hG_248 := cOK.frame hMr_246 go_.2.2.2.1 mq2_ kq2_ (by decide) (by decide) hG_242
      have hG_249 := dOK.frame hMr_246 go_.2.2.2.1 mq2_ kq2_ (by decide) (by decide) hG_243
      have hG_250 := jS.frame hMr_246 go_.2.2.2.1 mq2_ kq2_ (by decide) (by decide) hG_244
      have hG_251 := eOK.frame hMr_246 go_.2.2.2.1 ma0_ ka0_ (by decide) (by decide) hG_245
      refine lv_istore_n (lv' := [(3, .int r_246), (2, .ref a_45), (1, .int r_1), (0, .ref a0_)]) hx hb dX0_readAbove_80 rfl hl (by decide) rfl (fun ls hl => ?_)
      refine lv_aload_n hx hb dX0_readAbove_81 rfl (lv_at hl 3 rfl) ?_
      refine g_getk (C := RX0) (T := TX0) (N := 14) hx hb hts (mc_ inX0) hown hK g rfl 0 (by decide) rfl (hts _ (List.mem_cons_of_mem _ t_373)) (fun _ h9 => h9) 5 rfl dX0_readAbove_82 ?_
      have kb_1201 : bd 1201 1201 (1201 : Int32) := ⟨by decide, by decide⟩
      have go_ := g
      refine g_calli (va_runV (As := []) (rest := []) ⟨hx, hb, hml, hown, hts⟩ (r_X8_kind_2 l dC dI L kd tys fr_246 H.size g.2.2.2.1 q0_ mq0_ kq0_ 1201 kb_1201 (g.fcts [0] rfl)) (cwV 0 hts (gV_ t_1186 t_1119 t_1120 t_184 t_1121) rfl rfl rfl (by decide +kernel) ⟨(Nat.le_of_ble_eq_true rfl), (Nat.le_of_ble_eq_true rfl)⟩) (pre3V g hK mq0_ kq0_ (by decide) (q := (RX8, TX8, 10)) rfl) rfl rfl hl.1 rfl (lv_room (Nat.le_of_ble_eq_true rfl)) dX0_readAbove_85 ⟨(Nat.le_of_ble_eq_true rfl), (Nat.le_of_ble_eq_true rfl)⟩) g hK (by decide) (by decide) (fx' := [(8, 6, q0_, .int 1201), (8, 8, q0_, .int x_50), (7, 0, q2_, .ref a_44), (7, 1, q2_, .int x_21), (9, 1, q3_, .int x_16), (0, 0, a0_, .ref q0_), (0, 1, a0_, .ref q1_), (0, 2, a0_, .ref q2_), (5, 1, q1_, .ref q3_)]) rfl (fun r_252 fr_252 H locs hp hMr_252 g => ?_)
      obtain ⟨h_253, -⟩ := hp
      have hG_254 := eJx.frame hMr_252 go_.2.2.2.1 ma0_ ka0_ (by decide) (by decide) hG_247
      have hG_255 := cOK.frame hMr_252 go_.2.2.2.1 mq2_ kq2_ (by decide) (by decide) hG_248
      have hG_256 := dOK.frame hMr_252 go_.2.2.2.1 mq2_ kq2_ (by decide) (by decide) hG_249
      have hG_257 := jS.frame hMr_252 go_.2.2.2.1 mq2_ kq2_ (by decide) (by decide) hG_250
      have hG_258 := eOK.frame hMr_252 go_.2.2.2.1 ma0_ ka0_ (by decide) (by decide) hG_251
      obtain rfl : r_252 = 0 := h_253
      refine lv_iconst (v := 3) hx hb dX0_readAbove_88 (by decide) ?_
      refine lv_icmp_eq (tgt := 102) hx hb dX0_readAbove_89 (by decide) (fun c_ => absurd c_ (by decide)) (fun c_ => ?_)
      refine lv_aload_n hx hb dX0_readAbove_92 rfl (lv_at hl 3 rfl) ?_
      refine g_getk (C := RX0) (T := TX0) (N := 14) hx hb hts (mc_ inX0) hown hK g rfl 0 (by decide) rfl (hts _ (List.mem_cons_of_mem _ t_373)) (fun _ h9 => h9) 5 rfl dX0_readAbove_93 ?_
      refine lv_iconst (v := 1) hx hb dX0_readAbove_96 (by decide) ?_
      refine lv_iload_n hx hb dX0_readAbove_97 rfl (lv_at hl 0 rfl) ?_
      have kb_1 : bd 1 1 (1 : Int32) := ⟨by decide, by decide⟩
      have go_ := g
      refine g_callv (va_runV (As := [.int 1, .int r_246]) (rest := []) ⟨hx, hb, hml, hown, hts⟩ (r_X8_fail_2 l dC dI L kd tys fr_252 H.size g.2.2.2.1 q0_ mq0_ kq0_ 1 (bd_sub kb_1 (by decide)) r_246 x_50 h_51 (g.fcts [1] rfl)) (cwV 2 hts (gV_ t_1215 t_1107 t_1108 t_184 t_1109) rfl rfl rfl (by decide +kernel) ⟨(Nat.le_of_ble_eq_true rfl), (Nat.le_of_ble_eq_true rfl)⟩) (pre3V g hK mq0_ kq0_ (by decide) (q := (RX8, TX8, 10)) rfl) rfl rfl hl.1 rfl (lv_room (Nat.le_of_ble_eq_true rfl)) dX0_readAbove_98 ⟨(Nat.le_of_ble_eq_true rfl), (Nat.le_of_ble_eq_true rfl)⟩) g hK (by decide) (by decide) (fx' := [(8, 8, q0_, .int x_50), (7, 0, q2_, .ref a_44), (7, 1, q2_, .int x_21), (9, 1, q3_, .int x_16), (0, 0, a0_, .ref q0_), (0, 1, a0_, .ref q1_), (0, 2, a0_, .ref q2_), (5, 1, q1_, .ref q3_)]) rfl (fun fr_259 H locs hp hMr_259 g => ?_)
      have hF_260 := hp
      have hG_261 := eJx.frame hMr_259 go_.2.2.2.1 ma0_ ka0_ (by decide) (by decide) hG_254
      have hG_262 := cOK.frame hMr_259 go_.2.2.2.1 mq2_ kq2_ (by decide) (by decide) hG_255
      have hG_263 := dOK.frame hMr_259 go_.2.2.2.1 mq2_ kq2_ (by decide) (by decide) hG_256
      have hG_264 := jS.frame hMr_259 go_.2.2.2.1 mq2_ kq2_ (by decide) (by decide) hG_257
      have hG_265 := eOK.frame hMr_259 go_.2.2.2.1 ma0_ ka0_ (by decide) (by decide) hG_258
      have g := g.more hF_260
      subst hQ
      exact W.vret hx hb hr (fun t ht hW => ⟨⟨_, rfl, Or.inr (⟨hG_263, hG_265, x_50, h_51, (g.fcts [0, 1] rfl)⟩), q3_of g hK ht hW⟩, g.2.2.1.F ht⟩) g.2.2.1.2.2 dX0_readAbove_101
set_option maxHeartbeats 4000000 in
set_option maxRecDepth 100000 in
theorem r_X0_openIndex_3 (l : Launch) (dC : Nat → ClassId) (dI : Nat → Nat → Nat) (L : List Nat) (kd : Nat → Nat) (tys : List (ClassId × FieldType)) (f0 : Nat → va_E) (sz : Nat) (hWT : WT L kd tys f0) (a0_ : Nat) (ma0_ : a0_ ∈ L) (ka0_ : kd a0_ = 0) (x1_ : Int32) (bx1_ : bd 4 4 x1_) (x2_ : Int32) (x3_ : Int32) (bx3_ : bd 0 9 x3_) (q0_ : Nat) (mq0_ : q0_ ∈ L) (kq0_ : kd q0_ = 8) (q1_ : Nat) (mq1_ : q1_ ∈ L) (kq1_ : kd q1_ = 5) (q2_ : Nat) (mq2_ : q2_ ∈ L) (kq2_ : kd q2_ = 7) (q3_ : Nat) (mq3_ : q3_ ∈ L) (kq3_ : kd q3_ = 9) (y0_ : Int32) (by0_ : bd 1 10 y0_) (y1_ : Int32) (by1_ : bd 0 0 y1_) (hGia0_ : eJx f0 a0_) (hGea0_ : eOK f0 a0_) (hfx : Fs L kd f0 [(0, 0, a0_, .ref q0_), (0, 1, a0_, .ref q1_), (0, 2, a0_, .ref q2_), (5, 1, q1_, .ref q3_), (9, 2, q3_, .int y0_), (8, 8, q0_, .int y1_)]) : Met l yX0_openIndex (.code yX0_openIndex cX0_openIndex 4 none :: lw_g) ({ frames := 1, cells := 0, slots := 0, locals := 23 }) (va_Pc [.ref a0_, .int x1_, .int x2_, .int x3_] (P3 (dC, dI) L tys f0 sz)) (va_Qv (fun (f : Nat → va_E) => (eJx f a0_ ∧ eOK f a0_ ∧ ∃ z0_ : Int32, bd 1 1201 z0_ ∧ ∃ z1_ : Int32, bd (-2147483647) 40 z1_ ∧ ∃ z2_ : Int32, bd 1 300 z2_ ∧ Fs L kd f [(8, 6, q0_, .int z0_), (0, 11, a0_, .int z1_), (0, 8, a0_, .int z2_), (8, 8, q0_, .int y1_)]) ∨ (eOK f a0_ ∧ ∃ z0_ : Int32, bd 1 300 z0_ ∧ ∃ z2_ : Int32, bd 1 7 z2_ ∧ Fs L kd f [(0, 8, a0_, .int z0_), (8, 6, q0_, .int 1201), (8, 8, q0_, .int z2_)])) (Q3 (dC, dI) L kd tys [(0, 8), (0, 11), (8, 6), (8, 8), (8, 9)] [110, 111, 112, 113, 114] f0 sz) (pA L sz)) 0 0 (pA L sz) := by
  refine Met.ofW (cc := cX0_openIndex) (maxL := 4) (ret := none) (by decide) rfl ?_
  intro p e s m args below meth c s₁ B hml hv
  obtain ⟨rfl, hsz, hP, hK, hD0⟩ := hv
  have hx := B.exec
  have hb := B.bytes
  have hr := B.returns
  have hts := atoms_spec (ws := (.code yX0_openIndex cX0_openIndex 4 none :: lw_g)) B.pre
  have hown : s.vm.findClass RX0 = some m.cls := findClass_of_methodNamed B.named
  have hlocks := B.notSynchronized
  subst hsz
  have g : G3 (dC, dI) L kd tys s f0 [(0, 8), (0, 11), (8, 6), (8, 8), (8, 9)] [110, 111, 112, 113, 114] f0 s.heap [] [(0, 0, a0_, .ref q0_), (0, 1, a0_, .ref q1_), (0, 2, a0_, .ref q2_), (5, 1, q1_, .ref q3_), (9, 2, q3_, .int y0_), (8, 8, q0_, .int y1_)] := G3.start hP hD0 hWT hfx
  have hl := lv_entry ([.ref a0_, .int x1_, .int x2_, .int x3_]) (n := 4) (Nat.le_of_ble_eq_true rfl)
  rw [lg_entry_eq]
  generalize (lg_sl ([.ref a0_, .int x1_, .int x2_, .int x3_]) ++ List.replicate (4 - (lg_sl ([.ref a0_, .int x1_, .int x2_, .int x3_])).length) Slot.unset).toArray = ls at hl ⊢
  have hl : lv_has ls 4 [(0, .ref a0_), (1, .int x1_), (2, .int x2_), (3, .int x3_)] := hl
  refine W_q (fun Q hQ => ?_)
  refine lv_aload_n hx hb dX0_openIndex_0 rfl (lv_at hl 0 rfl) ?_
  refine g_geti (C := RX0) (T := TX0) (N := 14) hx hb hts (mc_ inX0) hown hK g ma0_ ka0_ (by decide) rfl 11 (by decide) rfl (hts _ (List.mem_cons_of_mem _ t_384)) (fun _ h9 => h9) rfl dX0_openIndex_1 (fun x_1 bx_1 g => ?_)
  refine lv_bipush (v := 40) hx hb dX0_openIndex_4 (by decide) ?_
  have kb_40 : bd 40 40 (40 : Int32) := ⟨by decide, by decide⟩
  refine lv_icmp_lt (tgt := 24) hx hb dX0_openIndex_6 (by decide) (fun c_2 => ?_) (fun c_2 => ?_)
  · have fc_2 := lt_f c_2
    have b_3 : bd (-2147483648) 39 x_1 := ltL fc_2 (bdT x_1) kb_40 (by decide)
    refine lv_aload_n hx hb dX0_openIndex_24 rfl (lv_at hl 0 rfl) ?_
    refine lv_iload_n hx hb dX0_openIndex_25 rfl (lv_at hl 1 rfl) ?_
    refine lv_iload_n hx hb dX0_openIndex_26 rfl (lv_at hl 2 rfl) ?_
    refine lv_aload_n hx hb dX0_openIndex_27 rfl (lv_at hl 0 rfl) ?_
    refine g_getk (C := RX0) (T := TX0) (N := 14) hx hb hts (mc_ inX0) hown hK g rfl 1 (by decide) rfl (hts _ (List.mem_cons_of_mem _ t_374)) (fun _ h9 => h9) 2 rfl dX0_openIndex_28 ?_
    refine g_getk (C := RX5) (T := TX5) (N := 9) hx hb hts (mc_ inX5) hown hK g rfl 1 (by decide) rfl (hts _ (List.mem_cons_of_mem _ t_332)) (fun _ h9 => h9) 4 rfl dX0_openIndex_31 ?_
    refine lv_iload_n hx hb dX0_openIndex_34 rfl (lv_at hl 3 rfl) ?_
    have go_ := g
    refine g_calli (va_runV (As := [.int x3_]) (rest := [.int x2_, .int x1_, .ref a0_]) ⟨hx, hb, hml, hown, hts⟩ (r_X9_spanOf l dC dI L kd tys f0 s.heap.size g.2.2.2.1 q3_ mq3_ kq3_ x3_) (cwV 1 hts (gV_ t_1264 t_1265 t_1266 t_192 t_1267) rfl rfl rfl (by decide +kernel) ⟨(Nat.le_of_ble_eq_true rfl), (Nat.le_of_ble_eq_true rfl)⟩) (pre3V g hK mq3_ kq3_ (by decide) (q := (RX9, TX9, 13)) rfl) rfl rfl hl.1 rfl (lv_room (Nat.le_of_ble_eq_true rfl)) dX0_openIndex_35 ⟨(Nat.le_of_ble_eq_true rfl), (Nat.le_of_ble_eq_true rfl)⟩) g hK (by decide) (by decide) (fx' := [(0, 11, a0_, .int x_1), (0, 0, a0_, .ref q0_), (0, 1, a0_, .ref q1_), (0, 2, a0_, .ref q2_), (5, 1, q1_, .ref q3_), (9, 2, q3_, .int y0_), (8, 8, q0_, .int y1_)]) rfl (fun r_4 fr_4 H locs hp hMr_4 g => ?_)
    obtain ⟨h_5, -⟩ := hp
    have hG_6 := eJx.frame hMr_4 go_.2.2.2.1 ma0_ ka0_ (by decide) (by decide) hGia0_
    have hG_7 := eOK.frame hMr_4 go_.2.2.2.1 ma0_ ka0_ (by decide) (by decide) hGea0_
    obtain ⟨a_8, ma_8, ka_8, g⟩ := g_factr (K := 110) g ma0_ ka0_ (by decide) 3 rfl
    obtain ⟨a_9, ma_9, ka_9, g⟩ := g_factr (K := 112) g ma0_ ka0_ (by decide) 5 rfl
    have go_ := g
    refine g_callv (va_runV (As := [.int x1_, .int x2_, .int r_4]) (rest := []) ⟨hx, hb, hml, hown, hts⟩ (r_X0_push_3 l dC dI L kd tys fr_4 H.size g.2.2.2.1 a0_ ma0_ ka0_ x1_ x2_ r_4 q2_ mq2_ kq2_ a_8 ma_8 ka_8 a_9 ma_9 ka_9 hG_6 hG_7 (erel_bd bx1_ h_5 (by decide)) ⟨(fun h9 => (by exfalso; have h9_0 := h_5; unfold bd at h9_0; have h9_1 := bx1_; unfold bd at h9_1; have h9_2 := bx3_; unfold bd at h9_2; have h9_3 := b_3; unfold bd at h9_3; have h9_4 := by0_; unfold bd at h9_4; have h9_5 := by1_; unfold bd at h9_5; have h8_0 := kb_40; unfold bd at h8_0; omega)), (fun h9 => ⟨(by have h9_0 := h_5; unfold bd at h9_0; have h9_1 := bx1_; unfold bd at h9_1; have h9_2 := bx3_; unfold bd at h9_2; have h9_3 := b_3; unfold bd at h9_3; have h9_4 := by0_; unfold bd at h9_4; have h9_5 := by1_; unfold bd at h9_5; have h8_0 := kb_40; unfold bd at h8_0; omega), (by have h9_0 := h_5; unfold bd at h9_0; have h9_1 := bx1_; unfold bd at h9_1; have h9_2 := bx3_; unfold bd at h9_2; have h9_3 := b_3; unfold bd at h9_3; have h9_4 := by0_; unfold bd at h9_4; have h9_5 := by1_; unfold bd at h9_5; have h8_0 := kb_40; unfold bd at h8_0; omega)⟩)⟩ (g.fcts [5, 1, 0] rfl)) (cwV 3 hts (gV_ t_1221 t_1223 t_19 t_190 t_1224) rfl rfl rfl (by decide +kernel) ⟨(Nat.le_of_ble_eq_true rfl), (Nat.le_of_ble_eq_true rfl)⟩) (pre3V g hK ma0_ ka0_ (by decide) (q := (RX0, TX0, 14)) rfl) rfl rfl hl.1 rfl (lv_room (Nat.le_of_ble_eq_true rfl)) dX0_openIndex_38 ⟨(Nat.le_of_ble_eq_true rfl), (Nat.le_of_ble_eq_true rfl)⟩) g hK (by decide) (by decide) (fx' := [(0, 5, a0_, .ref a_9), (0, 3, a0_, .ref a_8), (0, 11, a0_, .int x_1), (0, 0, a0_, .ref q0_), (0, 1, a0_, .ref q1_), (0, 2, a0_, .ref q2_), (5, 1, q1_, .ref q3_), (9, 2, q3_, .int y0_), (8, 8, q0_, .int y1_)]) rfl (fun fr_10 H locs hp hMr_10 g => ?_)
    obtain ⟨hG_11, hG_12, x_13, h_14, hF_15⟩ := hp
    have g := g.more hF_15
    refine lv_aload_n hx hb dX0_openIndex_41 rfl (lv_at hl 0 rfl) ?_
    refine lv_dup hx hb dX0_openIndex_42 rfl ?_
    refine g_getk (C := RX0) (T := TX0) (N := 14) hx hb hts (mc_ inX0) hown hK g rfl 11 (by decide) rfl (hts _ (List.mem_cons_of_mem _ t_384)) (fun _ h9 => h9) 3 rfl dX0_openIndex_43 ?_
    refine lv_iconst (v := 1) hx hb dX0_openIndex_46 (by decide) ?_
    have kb_1 : bd 1 1 (1 : Int32) := ⟨by decide, by decide⟩
    refine lv_iadd hx hb dX0_openIndex_47 ?_
    refine lv_topi (fun y_16 ey_16 => ?_)
    have ty_16 := add_bd ey_16 b_3 kb_1 (by decide)
    have b_17 : bd (-2147483647) 40 y_16 := add_rg ty_16 b_3 kb_1 (by decide)
    have go_ := g
    refine g_put (C := RX0) (T := TX0) (N := 14) hx hb hts (mc_ inX0) tyX0 tyX0_ok nmX0 hown hK g ma0_ ka0_ (by decide) rfl 11 (by decide) (hts _ (List.mem_cons_of_mem _ t_384)) (fun _ h9 => h9) rfl rfl (okV_i (bd_sub b_17 (by decide))) rfl rfl (by decide) (Or.inr (Or.inl (by decide))) (fx' := [(0, 8, a0_, .int x_13), (0, 5, a0_, .ref a_9), (0, 3, a0_, .ref a_8), (0, 0, a0_, .ref q0_), (0, 1, a0_, .ref q1_), (0, 2, a0_, .ref q2_), (5, 1, q1_, .ref q3_), (9, 2, q3_, .int y0_), (8, 8, q0_, .int y1_)]) rfl dX0_openIndex_48 (fun f H locs hM_18 g => ?_)
    have hG_19 := eJx.frame hM_18 go_.2.2.2.1 ma0_ ka0_ (by decide) (by decide) hG_11
    have hG_20 := eOK.frame hM_18 go_.2.2.2.1 ma0_ ka0_ (by decide) (by decide) hG_12
    refine lv_aload_n hx hb dX0_openIndex_51 rfl (lv_at hl 0 rfl) ?_
    refine g_getk (C := RX0) (T := TX0) (N := 14) hx hb hts (mc_ inX0) hown hK g rfl 0 (by decide) rfl (hts _ (List.mem_cons_of_mem _ t_373)) (fun _ h9 => h9) 4 rfl dX0_openIndex_52 ?_
    have go_ := g
    refine g_callv (va_runV (As := []) (rest := []) ⟨hx, hb, hml, hown, hts⟩ (r_X8_next l dC dI L kd tys f H.size g.2.2.2.1 q0_ mq0_ kq0_) (cwV 0 hts (gV_ t_1225 t_1103 t_1104 t_184 t_1105) rfl rfl rfl (by decide +kernel) ⟨(Nat.le_of_ble_eq_true rfl), (Nat.le_of_ble_eq_true rfl)⟩) (pre3V g hK mq0_ kq0_ (by decide) (q := (RX8, TX8, 10)) rfl) rfl rfl hl.1 rfl (lv_room (Nat.le_of_ble_eq_true rfl)) dX0_openIndex_55 ⟨(Nat.le_of_ble_eq_true rfl), (Nat.le_of_ble_eq_true rfl)⟩) g hK (by decide) (by decide) (fx' := [(0, 11, a0_, .int y_16), (0, 8, a0_, .int x_13), (0, 5, a0_, .ref a_9), (0, 3, a0_, .ref a_8), (0, 0, a0_, .ref q0_), (0, 1, a0_, .ref q1_), (0, 2, a0_, .ref q2_), (5, 1, q1_, .ref q3_), (9, 2, q3_, .int y0_), (8, 8, q0_, .int y1_)]) rfl (fun fr_21 H locs hp hMr_21 g => ?_)
    obtain ⟨x_22, h_23, hF_24⟩ := hp
    have hG_25 := eJx.frame hMr_21 go_.2.2.2.1 ma0_ ka0_ (by decide) (by decide) hG_19
    have hG_26 := eOK.frame hMr_21 go_.2.2.2.1 ma0_ ka0_ (by decide) (by decide) hG_20
    have g := g.more hF_24
    subst hQ
    exact W.vret hx hb hr (fun t ht hW => ⟨⟨_, rfl, Or.inl ⟨hG_25, hG_26, x_22, h_23, y_16, b_17, x_13, h_14, (g.fcts [0, 1, 2, 10] rfl)⟩, q3_of g hK ht hW⟩, g.2.2.1.F ht⟩) g.2.2.1.2.2 dX0_openIndex_58
  · have fc_2 := nlt_f c_2
    have b_27 : bd 40 2147483647 x_1 := leR fc_2 kb_40 (bdT x_1) (by decide)
    refine lv_aload_n hx hb dX0_openIndex_9 rfl (lv_at hl 0 rfl) ?_
    refine g_getk (C := RX0) (T := TX0) (N := 14) hx hb hts (mc_ inX0) hown hK g rfl 0 (by decide) rfl (hts _ (List.mem_cons_of_mem _ t_373)) (fun _ h9 => h9) 1 rfl dX0_openIndex_10 ?_
    refine lv_iconst (v := 4) hx hb dX0_openIndex_13 (by decide) ?_
    refine lv_aload_n hx hb dX0_openIndex_14 rfl (lv_at hl 0 rfl) ?_
    refine g_getk (C := RX0) (T := TX0) (N := 14) hx hb hts (mc_ inX0) hown hK g rfl 0 (by decide) rfl (hts _ (List.mem_cons_of_mem _ t_373)) (fun _ h9 => h9) 1 rfl dX0_openIndex_15 ?_
    have go_ := g
    refine g_calli (va_runV (As := []) (rest := [.int 4, .ref q0_]) ⟨hx, hb, hml, hown, hts⟩ (r_X8_place l dC dI L kd tys f0 s.heap.size g.2.2.2.1 q0_ mq0_ kq0_) (cwV 0 hts (gV_ t_1220 t_1111 t_1112 t_184 t_1113) rfl rfl rfl (by decide +kernel) ⟨(Nat.le_of_ble_eq_true rfl), (Nat.le_of_ble_eq_true rfl)⟩) (pre3V g hK mq0_ kq0_ (by decide) (q := (RX8, TX8, 10)) rfl) rfl rfl hl.1 rfl (lv_room (Nat.le_of_ble_eq_true rfl)) dX0_openIndex_18 ⟨(Nat.le_of_ble_eq_true rfl), (Nat.le_of_ble_eq_true rfl)⟩) g hK (by decide) (by decide) (fx' := [(0, 11, a0_, .int x_1), (0, 0, a0_, .ref q0_), (0, 1, a0_, .ref q1_), (0, 2, a0_, .ref q2_), (5, 1, q1_, .ref q3_), (9, 2, q3_, .int y0_), (8, 8, q0_, .int y1_)]) rfl (fun r_28 fr_28 H locs hp hMr_28 g => ?_)
    have hG_29 := eJx.frame hMr_28 go_.2.2.2.1 ma0_ ka0_ (by decide) (by decide) hGia0_
    have hG_30 := eOK.frame hMr_28 go_.2.2.2.1 ma0_ ka0_ (by decide) (by decide) hGea0_
    have kb_4 : bd 4 4 (4 : Int32) := ⟨by decide, by decide⟩
    have go_ := g
    refine g_callv (va_runV (As := [.int 4, .int r_28]) (rest := []) ⟨hx, hb, hml, hown, hts⟩ (r_X8_fail l dC dI L kd tys fr_28 H.size g.2.2.2.1 q0_ mq0_ kq0_ 4 (bd_sub kb_4 (by decide)) r_28 y1_ by1_ (g.fcts [6] rfl)) (cwV 2 hts (gV_ t_1215 t_1107 t_1108 t_184 t_1109) rfl rfl rfl (by decide +kernel) ⟨(Nat.le_of_ble_eq_true rfl), (Nat.le_of_ble_eq_true rfl)⟩) (pre3V g hK mq0_ kq0_ (by decide) (q := (RX8, TX8, 10)) rfl) rfl rfl hl.1 rfl (lv_room (Nat.le_of_ble_eq_true rfl)) dX0_openIndex_21 ⟨(Nat.le_of_ble_eq_true rfl), (Nat.le_of_ble_eq_true rfl)⟩) g hK (by decide) (by decide) (fx' := [(0, 11, a0_, .int x_1), (0, 0, a0_, .ref q0_), (0, 1, a0_, .ref q1_), (0, 2, a0_, .ref q2_), (5, 1, q1_, .ref q3_), (9, 2, q3_, .int y0_)]) rfl (fun fr_31 H locs hp hMr_31 g => ?_)
    obtain ⟨x_32, h_33, hF_34⟩ := hp
    have hG_35 := eJx.frame hMr_31 go_.2.2.2.1 ma0_ ka0_ (by decide) (by decide) hG_29
    have hG_36 := eOK.frame hMr_31 go_.2.2.2.1 ma0_ ka0_ (by decide) (by decide) hG_30
    have g := g.more hF_34
    refine lv_aload_n hx hb dX0_openIndex_24 rfl (lv_at hl 0 rfl) ?_
    refine lv_iload_n hx hb dX0_openIndex_25 rfl (lv_at hl 1 rfl) ?_
    refine lv_iload_n hx hb dX0_openIndex_26 rfl (lv_at hl 2 rfl) ?_
    refine lv_aload_n hx hb dX0_openIndex_27 rfl (lv_at hl 0 rfl) ?_
    refine g_getk (C := RX0) (T := TX0) (N := 14) hx hb hts (mc_ inX0) hown hK g rfl 1 (by decide) rfl (hts _ (List.mem_cons_of_mem _ t_374)) (fun _ h9 => h9) 4 rfl dX0_openIndex_28 ?_
    refine g_getk (C := RX5) (T := TX5) (N := 9) hx hb hts (mc_ inX5) hown hK g rfl 1 (by decide) rfl (hts _ (List.mem_cons_of_mem _ t_332)) (fun _ h9 => h9) 6 rfl dX0_openIndex_31 ?_
    refine lv_iload_n hx hb dX0_openIndex_34 rfl (lv_at hl 3 rfl) ?_
    have go_ := g
    refine g_calli (va_runV (As := [.int x3_]) (rest := [.int x2_, .int x1_, .ref a0_]) ⟨hx, hb, hml, hown, hts⟩ (r_X9_spanOf l dC dI L kd tys fr_31 H.size g.2.2.2.1 q3_ mq3_ kq3_ x3_) (cwV 1 hts (gV_ t_1264 t_1265 t_1266 t_192 t_1267) rfl rfl rfl (by decide +kernel) ⟨(Nat.le_of_ble_eq_true rfl), (Nat.le_of_ble_eq_true rfl)⟩) (pre3V g hK mq3_ kq3_ (by decide) (q := (RX9, TX9, 13)) rfl) rfl rfl hl.1 rfl (lv_room (Nat.le_of_ble_eq_true rfl)) dX0_openIndex_35 ⟨(Nat.le_of_ble_eq_true rfl), (Nat.le_of_ble_eq_true rfl)⟩) g hK (by decide) (by decide) (fx' := [(8, 6, q0_, .int 1201), (8, 8, q0_, .int x_32), (0, 11, a0_, .int x_1), (0, 0, a0_, .ref q0_), (0, 1, a0_, .ref q1_), (0, 2, a0_, .ref q2_), (5, 1, q1_, .ref q3_), (9, 2, q3_, .int y0_)]) rfl (fun r_37 fr_37 H locs hp hMr_37 g => ?_)
    obtain ⟨h_38, -⟩ := hp
    have hG_39 := eJx.frame hMr_37 go_.2.2.2.1 ma0_ ka0_ (by decide) (by decide) hG_35
    have hG_40 := eOK.frame hMr_37 go_.2.2.2.1 ma0_ ka0_ (by decide) (by decide) hG_36
    obtain ⟨a_41, ma_41, ka_41, g⟩ := g_factr (K := 110) g ma0_ ka0_ (by decide) 3 rfl
    obtain ⟨a_42, ma_42, ka_42, g⟩ := g_factr (K := 112) g ma0_ ka0_ (by decide) 5 rfl
    have go_ := g
    refine g_callv (va_runV (As := [.int x1_, .int x2_, .int r_37]) (rest := []) ⟨hx, hb, hml, hown, hts⟩ (r_X0_push_4 l dC dI L kd tys fr_37 H.size g.2.2.2.1 a0_ ma0_ ka0_ x1_ x2_ r_37 q2_ mq2_ kq2_ a_41 ma_41 ka_41 a_42 ma_42 ka_42 hG_40 (erel_bd bx1_ h_38 (by decide)) (g.fcts [7, 1, 0] rfl)) (cwV 3 hts (gV_ t_1221 t_1223 t_19 t_190 t_1224) rfl rfl rfl (by decide +kernel) ⟨(Nat.le_of_ble_eq_true rfl), (Nat.le_of_ble_eq_true rfl)⟩) (pre3V g hK ma0_ ka0_ (by decide) (q := (RX0, TX0, 14)) rfl) rfl rfl hl.1 rfl (lv_room (Nat.le_of_ble_eq_true rfl)) dX0_openIndex_38 ⟨(Nat.le_of_ble_eq_true rfl), (Nat.le_of_ble_eq_true rfl)⟩) g hK (by decide) (by decide) (fx' := [(0, 5, a0_, .ref a_42), (0, 3, a0_, .ref a_41), (8, 6, q0_, .int 1201), (8, 8, q0_, .int x_32), (0, 11, a0_, .int x_1), (0, 0, a0_, .ref q0_), (0, 1, a0_, .ref q1_), (0, 2, a0_, .ref q2_), (5, 1, q1_, .ref q3_), (9, 2, q3_, .int y0_)]) rfl (fun fr_43 H locs hp hMr_43 g => ?_)
    obtain ⟨hG_44, x_45, h_46, hF_47⟩ := hp
    have g := g.more hF_47
    refine lv_aload_n hx hb dX0_openIndex_41 rfl (lv_at hl 0 rfl) ?_
    refine lv_dup hx hb dX0_openIndex_42 rfl ?_
    refine g_getk (C := RX0) (T := TX0) (N := 14) hx hb hts (mc_ inX0) hown hK g rfl 11 (by decide) rfl (hts _ (List.mem_cons_of_mem _ t_384)) (fun _ h9 => h9) 5 rfl dX0_openIndex_43 ?_
    refine lv_iconst (v := 1) hx hb dX0_openIndex_46 (by decide) ?_
    have kb_1 : bd 1 1 (1 : Int32) := ⟨by decide, by decide⟩
    refine lv_iadd hx hb dX0_openIndex_47 ?_
    refine lv_topi (fun y_48 ey_48 => ?_)
    have go_ := g
    refine g_put (C := RX0) (T := TX0) (N := 14) hx hb hts (mc_ inX0) tyX0 tyX0_ok nmX0 hown hK g ma0_ ka0_ (by decide) rfl 11 (by decide) (hts _ (List.mem_cons_of_mem _ t_384)) (fun _ h9 => h9) rfl rfl (okV_i (bdT y_48)) rfl rfl (by decide) (Or.inr (Or.inl (by decide))) (fx' := [(0, 8, a0_, .int x_45), (0, 5, a0_, .ref a_42), (0, 3, a0_, .ref a_41), (8, 6, q0_, .int 1201), (8, 8, q0_, .int x_32), (0, 0, a0_, .ref q0_), (0, 1, a0_, .ref q1_), (0, 2, a0_, .ref q2_), (5, 1, q1_, .ref q3_), (9, 2, q3_, .int y0_)]) rfl dX0_openIndex_48 (fun f H locs hM_49 g => ?_)
    have hG_50 := eOK.frame hM_49 go_.2.2.2.1 ma0_ ka0_ (by decide) (by decide) hG_44
    refine lv_aload_n hx hb dX0_openIndex_51 rfl (lv_at hl 0 rfl) ?_
    refine g_getk (C := RX0) (T := TX0) (N := 14) hx hb hts (mc_ inX0) hown hK g rfl 0 (by decide) rfl (hts _ (List.mem_cons_of_mem _ t_373)) (fun _ h9 => h9) 6 rfl dX0_openIndex_52 ?_
    have kb_1201 : bd 1201 1201 (1201 : Int32) := ⟨by decide, by decide⟩
    have go_ := g
    refine g_callv (va_runV (As := []) (rest := []) ⟨hx, hb, hml, hown, hts⟩ (r_X8_next_2 l dC dI L kd tys f H.size g.2.2.2.1 q0_ mq0_ kq0_ 1201 kb_1201 (g.fcts [4] rfl)) (cwV 0 hts (gV_ t_1225 t_1103 t_1104 t_184 t_1105) rfl rfl rfl (by decide +kernel) ⟨(Nat.le_of_ble_eq_true rfl), (Nat.le_of_ble_eq_true rfl)⟩) (pre3V g hK mq0_ kq0_ (by decide) (q := (RX8, TX8, 10)) rfl) rfl rfl hl.1 rfl (lv_room (Nat.le_of_ble_eq_true rfl)) dX0_openIndex_55 ⟨(Nat.le_of_ble_eq_true rfl), (Nat.le_of_ble_eq_true rfl)⟩) g hK (by decide) (by decide) (fx' := [(0, 11, a0_, .int y_48), (0, 8, a0_, .int x_45), (0, 5, a0_, .ref a_42), (0, 3, a0_, .ref a_41), (8, 6, q0_, .int 1201), (8, 8, q0_, .int x_32), (0, 0, a0_, .ref q0_), (0, 1, a0_, .ref q1_), (0, 2, a0_, .ref q2_), (5, 1, q1_, .ref q3_), (9, 2, q3_, .int y0_)]) rfl (fun fr_51 H locs hp hMr_51 g => ?_)
    have hG_52 := eOK.frame hMr_51 go_.2.2.2.1 ma0_ ka0_ (by decide) (by decide) hG_50
    subst hQ
    exact W.vret hx hb hr (fun t ht hW => ⟨⟨_, rfl, Or.inr (⟨hG_52, x_45, h_46, x_32, h_33, (g.fcts [1, 4, 5] rfl)⟩), q3_of g hK ht hW⟩, g.2.2.1.F ht⟩) g.2.2.1.2.2 dX0_openIndex_58
