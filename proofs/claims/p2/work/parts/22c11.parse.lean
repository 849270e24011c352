set_option maxHeartbeats 4000000 in
set_option maxRecDepth 100000 in
theorem r_X0_openSign_2 (l : Launch) (dC : Nat → ClassId) (dI : Nat → Nat → Nat) (L : List Nat) (kd : Nat → Nat) (tys : List (ClassId × FieldType)) (f0 : Nat → va_E) (sz : Nat) (hWT : WT L kd tys f0) (a0_ : Nat) (ma0_ : a0_ ∈ L) (ka0_ : kd a0_ = 0) (x1_ : Int32) (q0_ : Nat) (mq0_ : q0_ ∈ L) (kq0_ : kd q0_ = 8) (q1_ : Nat) (mq1_ : q1_ ∈ L) (kq1_ : kd q1_ = 7) (y0_ : Int32) (by0_ : bd 0 0 y0_) (hGea0_ : eOK f0 a0_) (hfx : Fs L kd f0 [(0, 0, a0_, .ref q0_), (0, 2, a0_, .ref q1_), (8, 8, q0_, .int y0_)]) : Met l yX0_openSign (.code yX0_openSign cX0_openSign 3 none :: lw_g) ({ frames := 1, cells := 0, slots := 0, locals := 23 }) (va_Pc [.ref a0_, .int x1_] (P3 (dC, dI) L tys f0 sz)) (va_Qv (fun (f : Nat → va_E) => (eOK f a0_ ∧ ∃ z0_ : Int32, bd 1 1201 z0_ ∧ ∃ z1_ : Int32, bd (-2147483647) 40 z1_ ∧ ∃ z2_ : Int32, bd 1 300 z2_ ∧ Fs L kd f [(8, 6, q0_, .int z0_), (0, 11, a0_, .int z1_), (0, 8, a0_, .int z2_), (8, 8, q0_, .int y0_)]) ∨ (eOK f a0_ ∧ ∃ z0_ : Int32, bd 1 300 z0_ ∧ ∃ z2_ : Int32, bd 1 7 z2_ ∧ Fs L kd f [(0, 8, a0_, .int z0_), (8, 6, q0_, .int 1201), (8, 8, q0_, .int z2_)])) (Q3 (dC, dI) L kd tys [(0, 8), (0, 11), (7, 18), (8, 6), (8, 8), (8, 9)] [110, 111, 112, 113, 114] f0 sz) (pA L sz)) 0 0 (pA L sz) := by
  refine Met.ofW (cc := cX0_openSign) (maxL := 3) (ret := none) (by decide) rfl ?_
  intro p e s m args below meth c s₁ B hml hv
  obtain ⟨rfl, hsz, hP, hK, hD0⟩ := hv
  have hx := B.exec
  have hb := B.bytes
  have hr := B.returns
  have hts := atoms_spec (ws := (.code yX0_openSign cX0_openSign 3 none :: lw_g)) B.pre
  have hown : s.vm.findClass RX0 = some m.cls := findClass_of_methodNamed B.named
  have hlocks := B.notSynchronized
  subst hsz
  have g : G3 (dC, dI) L kd tys s f0 [(0, 8), (0, 11), (7, 18), (8, 6), (8, 8), (8, 9)] [110, 111, 112, 113, 114] f0 s.heap [] [(0, 0, a0_, .ref q0_), (0, 2, a0_, .ref q1_), (8, 8, q0_, .int y0_)] := G3.start hP hD0 hWT hfx
  have hl := lv_entry ([.ref a0_, .int x1_]) (n := 3) (Nat.le_of_ble_eq_true rfl)
  rw [lg_entry_eq]
  generalize (lg_sl ([.ref a0_, .int x1_]) ++ List.replicate (3 - (lg_sl ([.ref a0_, .int x1_])).length) Slot.unset).toArray = ls at hl ⊢
  have hl : lv_has ls 3 [(0, .ref a0_), (1, .int x1_)] := hl
  refine W_q (fun Q hQ => ?_)
  refine lv_aload_n hx hb dX0_openSign_0 rfl (lv_at hl 0 rfl) ?_
  refine g_geti (C := RX0) (T := TX0) (N := 14) hx hb hts (mc_ inX0) hown hK g ma0_ ka0_ (by decide) rfl 11 (by decide) rfl (hts _ (List.mem_cons_of_mem _ t_384)) (fun _ h9 => h9) rfl dX0_openSign_1 (fun x_1 bx_1 g => ?_)
  refine lv_bipush (v := 40) hx hb dX0_openSign_4 (by decide) ?_
  have kb_40 : bd 40 40 (40 : Int32) := ⟨by decide, by decide⟩
  refine lv_icmp_lt (tgt := 24) hx hb dX0_openSign_6 (by decide) (fun c_2 => ?_) (fun c_2 => ?_)
  · have fc_2 := lt_f c_2
    have b_3 : bd (-2147483648) 39 x_1 := ltL fc_2 (bdT x_1) kb_40 (by decide)
    refine lv_iload_n hx hb dX0_openSign_24 rfl (lv_at hl 1 rfl) ?_
    refine lv_bipush (v := 45) hx hb dX0_openSign_25 (by decide) ?_
    have kb_45 : bd 45 45 (45 : Int32) := ⟨by decide, by decide⟩
    refine lv_icmp_ne (tgt := 35) hx hb dX0_openSign_27 (by decide) (fun c_4 => ?_) (fun c_4 => ?_)
    · have fc_4 := neq_f c_4
      refine lv_bipush (v := 7) hx hb dX0_openSign_35 (by decide) ?_
      refine lv_istore_n (lv' := [(2, .int 7), (0, .ref a0_), (1, .int x1_)]) hx hb dX0_openSign_37 rfl hl (by decide) rfl (fun ls hl => ?_)
      refine lv_aload_n hx hb dX0_openSign_38 rfl (lv_at hl 1 rfl) ?_
      refine lv_iload_n hx hb dX0_openSign_39 rfl (lv_at hl 2 rfl) ?_
      refine lv_bipush (v := 40) hx hb dX0_openSign_40 (by decide) ?_
      refine lv_icmp_ne (tgt := 49) hx hb dX0_openSign_42 (by decide) (fun c_5 => ?_) (fun c_5 => ?_)
      · have fc_5 := neq_f c_5
        refine lv_iload_n hx hb dX0_openSign_49 rfl (lv_at hl 0 rfl) ?_
        refine lv_aload_n hx hb dX0_openSign_50 rfl (lv_at hl 1 rfl) ?_
        refine g_getk (C := RX0) (T := TX0) (N := 14) hx hb hts (mc_ inX0) hown hK g rfl 0 (by decide) rfl (hts _ (List.mem_cons_of_mem _ t_373)) (fun _ h9 => h9) 1 rfl dX0_openSign_51 ?_
        have go_ := g
        refine g_calli (va_runV (As := []) (rest := [.int 7, .ref a0_]) ⟨hx, hb, hml, hown, hts⟩ (r_X8_place l dC dI L kd tys f0 s.heap.size g.2.2.2.1 q0_ mq0_ kq0_) (cwV 0 hts (gV_ t_1220 t_1111 t_1112 t_184 t_1113) rfl rfl rfl (by decide +kernel) ⟨(Nat.le_of_ble_eq_true rfl), (Nat.le_of_ble_eq_true rfl)⟩) (pre3V g hK mq0_ kq0_ (by decide) (q := (RX8, TX8, 10)) rfl) rfl rfl hl.1 rfl (lv_room (Nat.le_of_ble_eq_true rfl)) dX0_openSign_54 ⟨(Nat.le_of_ble_eq_true rfl), (Nat.le_of_ble_eq_true rfl)⟩) g hK (by decide) (by decide) (fx' := [(0, 11, a0_, .int x_1), (0, 0, a0_, .ref q0_), (0, 2, a0_, .ref q1_), (8, 8, q0_, .int y0_)]) rfl (fun r_6 fr_6 H locs hp hMr_6 g => ?_)
        have hG_7 := eOK.frame hMr_6 go_.2.2.2.1 ma0_ ka0_ (by decide) (by decide) hGea0_
        refine lv_iconst (v := 0) hx hb dX0_openSign_57 (by decide) ?_
        obtain ⟨a_8, ma_8, ka_8, g⟩ := g_factr (K := 110) g ma0_ ka0_ (by decide) 3 rfl
        obtain ⟨a_9, ma_9, ka_9, g⟩ := g_factr (K := 112) g ma0_ ka0_ (by decide) 5 rfl
        have kb_7 : bd 7 7 (7 : Int32) := ⟨by decide, by decide⟩
        have kb_0 : bd 0 0 (0 : Int32) := ⟨by decide, by decide⟩
        have go_ := g
        refine g_callv (va_runV (As := [.int 7, .int r_6, .int 0]) (rest := []) ⟨hx, hb, hml, hown, hts⟩ (r_X0_push_2 l dC dI L kd tys fr_6 H.size g.2.2.2.1 a0_ ma0_ ka0_ 7 r_6 0 a_8 ma_8 ka_8 a_9 ma_9 ka_9 hG_7 (erel_bd kb_7 kb_0 (by decide)) (g.fcts [1, 0] rfl)) (cwV 3 hts (gV_ t_1221 t_1223 t_19 t_190 t_1224) rfl rfl rfl (by decide +kernel) ⟨(Nat.le_of_ble_eq_true rfl), (Nat.le_of_ble_eq_true rfl)⟩) (pre3V g hK ma0_ ka0_ (by decide) (q := (RX0, TX0, 14)) rfl) rfl rfl hl.1 rfl (lv_room (Nat.le_of_ble_eq_true rfl)) dX0_openSign_58 ⟨(Nat.le_of_ble_eq_true rfl), (Nat.le_of_ble_eq_true rfl)⟩) g hK (by decide) (by decide) (fx' := [(0, 5, a0_, .ref a_9), (0, 3, a0_, .ref a_8), (0, 11, a0_, .int x_1), (0, 0, a0_, .ref q0_), (0, 2, a0_, .ref q1_), (8, 8, q0_, .int y0_)]) rfl (fun fr_10 H locs hp hMr_10 g => ?_)
        obtain ⟨hG_11, x_12, h_13, hF_14⟩ := hp
        have g := g.more hF_14
        refine lv_aload_n hx hb dX0_openSign_61 rfl (lv_at hl 1 rfl) ?_
        refine g_getk (C := RX0) (T := TX0) (N := 14) hx hb hts (mc_ inX0) hown hK g rfl 2 (by decide) rfl (hts _ (List.mem_cons_of_mem _ t_375)) (fun _ h9 => h9) 5 rfl dX0_openSign_62 ?_
        refine lv_dup hx hb dX0_openSign_65 rfl ?_
        refine g_geti (C := RX7) (T := TX7) (N := 19) hx hb hts (mc_ inX7) hown hK g mq1_ kq1_ (by decide) rfl 18 (by decide) rfl (hts _ (List.mem_cons_of_mem _ t_681)) (fun _ h9 => h9) rfl dX0_openSign_66 (fun x_15 bx_15 g => ?_)
        refine lv_iload_n hx hb dX0_openSign_69 rfl (lv_at hl 2 rfl) ?_
        refine lv_bipush (v := 40) hx hb dX0_openSign_70 (by decide) ?_
        refine lv_icmp_ne (tgt := 79) hx hb dX0_openSign_72 (by decide) (fun c_16 => ?_) (fun c_16 => ?_)
        · have fc_16 := neq_f c_16
          refine lv_iconst (v := 1) hx hb dX0_openSign_79 (by decide) ?_
          have kb_1 : bd 1 1 (1 : Int32) := ⟨by decide, by decide⟩
          refine lv_iadd hx hb dX0_openSign_80 ?_
          refine lv_topi (fun y_17 ey_17 => ?_)
          have go_ := g
          refine g_put (C := RX7) (T := TX7) (N := 19) hx hb hts (mc_ inX7) tyX7 tyX7_ok nmX7 hown hK g mq1_ kq1_ (by decide) rfl 18 (by decide) (hts _ (List.mem_cons_of_mem _ t_681)) (fun _ h9 => h9) rfl rfl (okV_i (bdT y_17)) rfl rfl (by decide) (Or.inr (Or.inl (by decide))) (fx' := [(0, 8, a0_, .int x_12), (0, 5, a0_, .ref a_9), (0, 3, a0_, .ref a_8), (0, 11, a0_, .int x_1), (0, 0, a0_, .ref q0_), (0, 2, a0_, .ref q1_), (8, 8, q0_, .int y0_)]) rfl dX0_openSign_81 (fun f H locs hM_18 g => ?_)
          have hG_19 := eOK.frame hM_18 go_.2.2.2.1 ma0_ ka0_ (by decide) (by decide) hG_11
          refine lv_aload_n hx hb dX0_openSign_84 rfl (lv_at hl 1 rfl) ?_
          refine lv_dup hx hb dX0_openSign_85 rfl ?_
          refine g_getk (C := RX0) (T := TX0) (N := 14) hx hb hts (mc_ inX0) hown hK g rfl 11 (by decide) rfl (hts _ (List.mem_cons_of_mem _ t_384)) (fun _ h9 => h9) 4 rfl dX0_openSign_86 ?_
          refine lv_iconst (v := 1) hx hb dX0_openSign_89 (by decide) ?_
          refine lv_iadd hx hb dX0_openSign_90 ?_
          refine lv_topi (fun y_20 ey_20 => ?_)
          have ty_20 := add_bd ey_20 b_3 kb_1 (by decide)
          have b_21 : bd (-2147483647) 40 y_20 := add_rg ty_20 b_3 kb_1 (by decide)
          have go_ := g
          refine g_put (C := RX0) (T := TX0) (N := 14) hx hb hts (mc_ inX0) tyX0 tyX0_ok nmX0 hown hK g ma0_ ka0_ (by decide) rfl 11 (by decide) (hts _ (List.mem_cons_of_mem _ t_384)) (fun _ h9 => h9) rfl rfl (okV_i (bd_sub b_21 (by decide))) rfl rfl (by decide) (Or.inr (Or.inl (by decide))) (fx' := [(7, 18, q1_, .int y_17), (0, 8, a0_, .int x_12), (0, 5, a0_, .ref a_9), (0, 3, a0_, .ref a_8), (0, 0, a0_, .ref q0_), (0, 2, a0_, .ref q1_), (8, 8, q0_, .int y0_)]) rfl dX0_openSign_91 (fun f H locs hM_22 g => ?_)
          have hG_23 := eOK.frame hM_22 go_.2.2.2.1 ma0_ ka0_ (by decide) (by decide) hG_19
          refine lv_aload_n hx hb dX0_openSign_94 rfl (lv_at hl 1 rfl) ?_
          refine g_getk (C := RX0) (T := TX0) (N := 14) hx hb hts (mc_ inX0) hown hK g rfl 0 (by decide) rfl (hts _ (List.mem_cons_of_mem _ t_373)) (fun _ h9 => h9) 5 rfl dX0_openSign_95 ?_
          have go_ := g
          refine g_callv (va_runV (As := []) (rest := []) ⟨hx, hb, hml, hown, hts⟩ (r_X8_next l dC dI L kd tys f H.size g.2.2.2.1 q0_ mq0_ kq0_) (cwV 0 hts (gV_ t_1225 t_1103 t_1104 t_184 t_1105) rfl rfl rfl (by decide +kernel) ⟨(Nat.le_of_ble_eq_true rfl), (Nat.le_of_ble_eq_true rfl)⟩) (pre3V g hK mq0_ kq0_ (by decide) (q := (RX8, TX8, 10)) rfl) rfl rfl hl.1 rfl (lv_room (Nat.le_of_ble_eq_true rfl)) dX0_openSign_98 ⟨(Nat.le_of_ble_eq_true rfl), (Nat.le_of_ble_eq_true rfl)⟩) g hK (by decide) (by decide) (fx' := [(0, 11, a0_, .int y_20), (7, 18, q1_, .int y_17), (0, 8, a0_, .int x_12), (0, 5, a0_, .ref a_9), (0, 3, a0_, .ref a_8), (0, 0, a0_, .ref q0_), (0, 2, a0_, .ref q1_), (8, 8, q0_, .int y0_)]) rfl (fun fr_24 H locs hp hMr_24 g => ?_)
          obtain ⟨x_25, h_26, hF_27⟩ := hp
          have hG_28 := eOK.frame hMr_24 go_.2.2.2.1 ma0_ ka0_ (by decide) (by decide) hG_23
          have g := g.more hF_27
          subst hQ
          exact W.vret hx hb hr (fun t ht hW => ⟨⟨_, rfl, Or.inl ⟨hG_28, x_25, h_26, y_20, b_21, x_12, h_13, (g.fcts [0, 1, 3, 8] rfl)⟩, q3_of g hK ht hW⟩, g.2.2.1.F ht⟩) g.2.2.1.2.2 dX0_openSign_101
        · have fc_16 := eq_f c_16
          have b_29 : bd 40 40 x1_ := eqX fc_16 (bdT x1_) kb_40 (by decide)
          refine lv_iconst (v := 0) hx hb dX0_openSign_75 (by decide) ?_
          refine lv_goto (tgt := 80) hx hb dX0_openSign_76 (by decide) ?_
          refine lv_iadd hx hb dX0_openSign_80 ?_
          refine lv_topi (fun y_30 ey_30 => ?_)
          have ty_30 := add_bd ey_30 (bdT x_15) kb_0 (by decide)
          have b_31 : bd (-2147483648) 2147483647 y_30 := add_rg ty_30 (bdT x_15) kb_0 (by decide)
          have go_ := g
          refine g_put (C := RX7) (T := TX7) (N := 19) hx hb hts (mc_ inX7) tyX7 tyX7_ok nmX7 hown hK g mq1_ kq1_ (by decide) rfl 18 (by decide) (hts _ (List.mem_cons_of_mem _ t_681)) (fun _ h9 => h9) rfl rfl (okV_i b_31) rfl rfl (by decide) (Or.inr (Or.inl (by decide))) (fx' := [(0, 8, a0_, .int x_12), (0, 5, a0_, .ref a_9), (0, 3, a0_, .ref a_8), (0, 11, a0_, .int x_1), (0, 0, a0_, .ref q0_), (0, 2, a0_, .ref q1_), (8, 8, q0_, .int y0_)]) rfl dX0_openSign_81 (fun f H locs hM_32 g => ?_)
          have hG_33 := eOK.frame hM_32 go_.2.2.2.1 ma0_ ka0_ (by decide) (by decide) hG_11
          refine lv_aload_n hx hb dX0_openSign_84 rfl (lv_at hl 1 rfl) ?_
          refine lv_dup hx hb dX0_openSign_85 rfl ?_
          refine g_getk (C := RX0) (T := TX0) (N := 14) hx hb hts (mc_ inX0) hown hK g rfl 11 (by decide) rfl (hts _ (List.mem_cons_of_mem _ t_384)) (fun _ h9 => h9) 4 rfl dX0_openSign_86 ?_
          refine lv_iconst (v := 1) hx hb dX0_openSign_89 (by decide) ?_
          have kb_1 : bd 1 1 (1 : Int32) := ⟨by decide, by decide⟩
          refine lv_iadd hx hb dX0_openSign_90 ?_
          refine lv_topi (fun y_34 ey_34 => ?_)
          have ty_34 := add_bd ey_34 b_3 kb_1 (by decide)
          have b_35 : bd (-2147483647) 40 y_34 := add_rg ty_34 b_3 kb_1 (by decide)
          have go_ := g
          refine g_put (C := RX0) (T := TX0) (N := 14) hx hb hts (mc_ inX0) tyX0 tyX0_ok nmX0 hown hK g ma0_ ka0_ (by decide) rfl 11 (by decide) (hts _ (List.mem_cons_of_mem _ t_384)) (fun _ h9 => h9) rfl rfl (okV_i (bd_sub b_35 (by decide))) rfl rfl (by decide) (Or.inr (Or.inl (by decide))) (fx' := [(7, 18, q1_, .int y_30), (0, 8, a0_, .int x_12), (0, 5, a0_, .ref a_9), (0, 3, a0_, .ref a_8), (0, 0, a0_, .ref q0_), (0, 2, a0_, .ref q1_), (8, 8, q0_, .int y0_)]) rfl dX0_openSign_91 (fun f H locs hM_36 g => ?_)
          have hG_37 := eOK.frame hM_36 go_.2.2.2.1 ma0_ ka0_ (by decide) (by decide) hG_33
          refine lv_aload_n hx hb dX0_openSign_94 rfl (lv_at hl 1 rfl) ?_
          refine g_getk (C := RX0) (T := TX0) (N := 14) hx hb hts (mc_ inX0) hown hK g rfl 0 (by decide) rfl (hts _ (List.mem_cons_of_mem _ t_373)) (fun _ h9 => h9) 5 rfl dX0_openSign_95 ?_
          have go_ := g
          refine g_callv (va_runV (As := []) (rest := []) ⟨hx, hb, hml, hown, hts⟩ (r_X8_next l dC dI L kd tys f H.size g.2.2.2.1 q0_ mq0_ kq0_) (cwV 0 hts (gV_ t_1225 t_1103 t_1104 t_184 t_1105) rfl rfl rfl (by decide +kernel) ⟨(Nat.le_of_ble_eq_true rfl), (Nat.le_of_ble_eq_true rfl)⟩) (pre3V g hK mq0_ kq0_ (by decide) (q := (RX8, TX8, 10)) rfl) rfl rfl hl.1 rfl (lv_room (Nat.le_of_ble_eq_true rfl)) dX0_openSign_98 ⟨(Nat.le_of_ble_eq_true rfl), (Nat.le_of_ble_eq_true rfl)⟩) g hK (by decide) (by decide) (fx' := [(0, 11, a0_, .int y_34), (7, 18, q1_, .int y_30), (0, 8, a0_, .int x_12), (0, 5, a0_, .ref a_9), (0, 3, a0_, .ref a_8), (0, 0, a0_, .ref q0_), (0, 2, a0_, .ref q1_), (8, 8, q0_, .int y0_)]) rfl (fun fr_38 H locs hp hMr_38 g => ?_)
          obtain ⟨x_39, h_40, hF_41⟩ := hp
          have hG_42 := eOK.frame hMr_38 go_.2.2.2.1 ma0_ ka0_ (by decide) (by decide) hG_37
          have g := g.more hF_41
          subst hQ
          exact W.vret hx hb hr (fun t ht hW => ⟨⟨_, rfl, Or.inl ⟨hG_42, x_39, h_40, y_34, b_35, x_12, h_13, (g.fcts [0, 1, 3, 8] rfl)⟩, q3_of g hK ht hW⟩, g.2.2.1.F ht⟩) g.2.2.1.2.2 dX0_openSign_101
      · have fc_5 := eq_f c_5
        have b_43 : bd 40 40 x1_ := eqX fc_5 (bdT x1_) kb_40 (by decide)
        refine lv_iconst (v := 1) hx hb dX0_openSign_45 (by decide) ?_
        refine lv_goto (tgt := 50) hx hb dX0_openSign_46 (by decide) ?_
        refine lv_aload_n hx hb dX0_openSign_50 rfl (lv_at hl 1 rfl) ?_
        refine g_getk (C := RX0) (T := TX0) (N := 14) hx hb hts (mc_ inX0) hown hK g rfl 0 (by decide) rfl (hts _ (List.mem_cons_of_mem _ t_373)) (fun _ h9 => h9) 1 rfl dX0_openSign_51 ?_
        have go_ := g
        refine g_calli (va_runV (As := []) (rest := [.int 1, .ref a0_]) ⟨hx, hb, hml, hown, hts⟩ (r_X8_place l dC dI L kd tys f0 s.heap.size g.2.2.2.1 q0_ mq0_ kq0_) (cwV 0 hts (gV_ t_1220 t_1111 t_1112 t_184 t_1113) rfl rfl rfl (by decide +kernel) ⟨(Nat.le_of_ble_eq_true rfl), (Nat.le_of_ble_eq_true rfl)⟩) (pre3V g hK mq0_ kq0_ (by decide) (q := (RX8, TX8, 10)) rfl) rfl rfl hl.1 rfl (lv_room (Nat.le_of_ble_eq_true rfl)) dX0_openSign_54 ⟨(Nat.le_of_ble_eq_true rfl), (Nat.le_of_ble_eq_true rfl)⟩) g hK (by decide) (by decide) (fx' := [(0, 11, a0_, .int x_1), (0, 0, a0_, .ref q0_), (0, 2, a0_, .ref q1_), (8, 8, q0_, .int y0_)]) rfl (fun r_44 fr_44 H locs hp hMr_44 g => ?_)
        have hG_45 := eOK.frame hMr_44 go_.2.2.2.1 ma0_ ka0_ (by decide) (by decide) hGea0_
        refine lv_iconst (v := 0) hx hb dX0_openSign_57 (by decide) ?_
        obtain ⟨a_46, ma_46, ka_46, g⟩ := g_factr (K := 110) g ma0_ ka0_ (by decide) 3 rfl
        obtain ⟨a_47, ma_47, ka_47, g⟩ := g_factr (K := 112) g ma0_ ka0_ (by decide) 5 rfl
        have kb_1 : bd 1 1 (1 : Int32) := ⟨by decide, by decide⟩
        have kb_0 : bd 0 0 (0 : Int32) := ⟨by decide, by decide⟩
        have go_ := g
        refine g_callv (va_runV (As := [.int 1, .int r_44, .int 0]) (rest := []) ⟨hx, hb, hml, hown, hts⟩ (r_X0_push_2 l dC dI L kd tys fr_44 H.size g.2.2.2.1 a0_ ma0_ ka0_ 1 r_44 0 a_46 ma_46 ka_46 a_47 ma_47 ka_47 hG_45 (erel_bd kb_1 kb_0 (by decide)) (g.fcts [1, 0] rfl)) (cwV 3 hts (gV_ t_1221 t_1223 t_19 t_190 t_1224) rfl rfl rfl (by decide +kernel) ⟨(Nat.le_of_ble_eq_true rfl), (Nat.le_of_ble_eq_true rfl)⟩) (pre3V g hK ma0_ ka0_ (by decide) (q := (RX0, TX0, 14)) rfl) rfl rfl hl.1 rfl (lv_room (Nat.le_of_ble_eq_true rfl)) dX0_openSign_58 ⟨(Nat.le_of_ble_eq_true rfl), (Nat.le_of_ble_eq_true rfl)⟩) g hK (by decide) (by decide) (fx' := [(0, 5, a0_, .ref a_47), (0, 3, a0_, .ref a_46), (0, 11, a0_, .int x_1), (0, 0, a0_, .ref q0_), (0, 2, a0_, .ref q1_), (8, 8, q0_, .int y0_)]) rfl (fun fr_48 H locs hp hMr_48 g => ?_)
        obtain ⟨hG_49, x_50, h_51, hF_52⟩ := hp
        have g := g.more hF_52
        refine lv_aload_n hx hb dX0_openSign_61 rfl (lv_at hl 1 rfl) ?_
        refine g_getk (C := RX0) (T := TX0) (N := 14) hx hb hts (mc_ inX0) hown hK g rfl 2 (by decide) rfl (hts _ (List.mem_cons_of_mem _ t_375)) (fun _ h9 => h9) 5 rfl dX0_openSign_62 ?_
        refine lv_dup hx hb dX0_openSign_65 rfl ?_
        refine g_geti (C := RX7) (T := TX7) (N := 19) hx hb hts (mc_ inX7) hown hK g mq1_ kq1_ (by decide) rfl 18 (by decide) rfl (hts _ (List.mem_cons_of_mem _ t_681)) (fun _ h9 => h9) rfl dX0_openSign_66 (fun x_53 bx_53 g => ?_)
        refine lv_iload_n hx hb dX0_openSign_69 rfl (lv_at hl 2 rfl) ?_
        refine lv_bipush (v := 40) hx hb dX0_openSign_70 (by decide) ?_
        refine lv_icmp_ne (tgt := 79) hx hb dX0_openSign_72 (by decide) (fun c_54 => ?_) (fun c_54 => ?_)
        · have fc_54 := neq_f c_54
          have b_55 : bd 41 39 x1_ := neX fc_54 b_43 kb_40 (by decide)
          exact bd_no b_55 (by decide)
        · have fc_54 := eq_f c_54
          refine lv_iconst (v := 0) hx hb dX0_openSign_75 (by decide) ?_
          refine lv_goto (tgt := 80) hx hb dX0_openSign_76 (by decide) ?_
          refine lv_iadd hx hb dX0_openSign_80 ?_
          refine lv_topi (fun y_56 ey_56 => ?_)
          have ty_56 := add_bd ey_56 (bdT x_53) kb_0 (by decide)
          have b_57 : bd (-2147483648) 2147483647 y_56 := add_rg ty_56 (bdT x_53) kb_0 (by decide)
          have go_ := g
          refine g_put (C := RX7) (T := TX7) (N := 19) hx hb hts (mc_ inX7) tyX7 tyX7_ok nmX7 hown hK g mq1_ kq1_ (by decide) rfl 18 (by decide) (hts _ (List.mem_cons_of_mem _ t_681)) (fun _ h9 => h9) rfl rfl (okV_i b_57) rfl rfl (by decide) (Or.inr (Or.inl (by decide))) (fx' := [(0, 8, a0_, .int x_50), (0, 5, a0_, .ref a_47), (0, 3, a0_, .ref a_46), (0, 11, a0_, .int x_1), (0, 0, a0_, .ref q0_), (0, 2, a0_, .ref q1_), (8, 8, q0_, .int y0_)]) rfl dX0_openSign_81 (fun f H locs hM_58 g => ?_)
          have hG_59 := eOK.frame hM_58 go_.2.2.2.1 ma0_ ka0_ (by decide) (by decide) hG_49
          refine lv_aload_n hx hb dX0_openSign_84 rfl (lv_at hl 1 rfl) ?_
          refine lv_dup hx hb dX0_openSign_85 rfl ?_
          refine g_getk (C := RX0) (T := TX0) (N := 14) hx hb hts (mc_ inX0) hown hK g rfl 11 (by decide) rfl (hts _ (List.mem_cons_of_mem _ t_384)) (fun _ h9 => h9) 4 rfl dX0_openSign_86 ?_
          refine lv_iconst (v := 1) hx hb dX0_openSign_89 (by decide) ?_
          refine lv_iadd hx hb dX0_openSign_90 ?_
          refine lv_topi (fun y_60 ey_60 => ?_)
          have ty_60 := add_bd ey_60 b_3 kb_1 (by decide)
          have b_61 : bd (-2147483647) 40 y_60 := add_rg ty_60 b_3 kb_1 (by decide)
          have go_ := g
          refine g_put (C := RX0) (T := TX0) (N := 14) hx hb hts (mc_ inX0) tyX0 tyX0_ok nmX0 hown hK g ma0_ ka0_ (by decide) rfl 11 (by decide) (hts _ (List.mem_cons_of_mem _ t_384)) (fun _ h9 => h9) rfl rfl (okV_i (bd_sub b_61 (by decide))) rfl rfl (by decide) (Or.inr (Or.inl (by decide))) (fx' := [(7, 18, q1_, .int y_56), (0, 8, a0_, .int x_50), (0, 5, a0_, .ref a_47), (0, 3, a0_, .ref a_46), (0, 0, a0_, .ref q0_), (0, 2, a0_, .ref q1_), (8, 8, q0_, .int y0_)]) rfl dX0_openSign_91 (fun f H locs hM_62 g => ?_)
          have hG_63 := eOK.frame hM_62 go_.2.2.2.1 ma0_ ka0_ (by decide) (by decide) hG_59
          refine lv_aload_n hx hb dX0_openSign_94 rfl (lv_at hl 1 rfl) ?_
          refine g_getk (C := RX0) (T := TX0) (N := 14) hx hb hts (mc_ inX0) hown hK g rfl 0 (by decide) rfl (hts _ (List.mem_cons_of_mem _ t_373)) (fun _ h9 => h9) 5 rfl dX0_openSign_95 ?_
          have go_ := g
          refine g_callv (va_runV (As := []) (rest := []) ⟨hx, hb, hml, hown, hts⟩ (r_X8_next l dC dI L kd tys f H.size g.2.2.2.1 q0_ mq0_ kq0_) (cwV 0 hts (gV_ t_1225 t_1103 t_1104 t_184 t_1105) rfl rfl rfl (by decide +kernel) ⟨(Nat.le_of_ble_eq_true rfl), (Nat.le_of_ble_eq_true rfl)⟩) (pre3V g hK mq0_ kq0_ (by decide) (q := (RX8, TX8, 10)) rfl) rfl rfl hl.1 rfl (lv_room (Nat.le_of_ble_eq_true rfl)) dX0_openSign_98 ⟨(Nat.le_of_ble_eq_true rfl), (Nat.le_of_ble_eq_true rfl)⟩) g hK (by decide) (by decide) (fx' := [(0, 11, a0_, .int y_60), (7, 18, q1_, .int y_56), (0, 8, a0_, .int x_50), (0, 5, a0_, .ref a_47), (0, 3, a0_, .ref a_46), (0, 0, a0_, .ref q0_), (0, 2, a0_, .ref q1_), (8, 8, q0_, .int y0_)]) rfl (fun fr_64 H locs hp hMr_64 g => ?_)
          obtain ⟨x_65, h_66, hF_67⟩ := hp
          have hG_68 := eOK.frame hMr_64 go_.2.2.2.1 ma0_ ka0_ (by decide) (by decide) hG_63
          have g := g.more hF_67
          subst hQ
          exact W.vret hx hb hr (fun t ht hW => ⟨⟨_, rfl, Or.inl ⟨hG_68, x_65, h_66, y_60, b_61, x_50, h_51, (g.fcts [0, 1, 3, 8] rfl)⟩, q3_of g hK ht hW⟩, g.2.2.1.F ht⟩) g.2.2.1.2.2 dX0_openSign_101
    · have fc_4 := eq_f c_4
      have b_69 : bd 45 45 x1_ := eqX fc_4 (bdT x1_) kb_45 (by decide)
      refine lv_bipush (v := 6) hx hb dX0_openSign_30 (by decide) ?_
      refine lv_goto (tgt := 37) hx hb dX0_openSign_32 (by decide) ?_
      refine lv_istore_n (lv' := [(2, .int 6), (0, .ref a0_), (1, .int x1_)]) hx hb dX0_openSign_37 rfl hl (by decide) rfl (fun ls hl => ?_)
      refine lv_aload_n hx hb dX0_openSign_38 rfl (lv_at hl 1 rfl) ?_
      refine lv_iload_n hx hb dX0_openSign_39 rfl (lv_at hl 2 rfl) ?_
      refine lv_bipush (v := 40) hx hb dX0_openSign_40 (by decide) ?_
      refine lv_icmp_ne (tgt := 49) hx hb dX0_openSign_42 (by decide) (fun c_70 => ?_) (fun c_70 => ?_)
      · have fc_70 := neq_f c_70
        refine lv_iload_n hx hb dX0_openSign_49 rfl (lv_at hl 0 rfl) ?_
        refine lv_aload_n hx hb dX0_openSign_50 rfl (lv_at hl 1 rfl) ?_
        refine g_getk (C := RX0) (T := TX0) (N := 14) hx hb hts (mc_ inX0) hown hK g rfl 0 (by decide) rfl (hts _ (List.mem_cons_of_mem _ t_373)) (fun _ h9 => h9) 1 rfl dX0_openSign_51 ?_
        have go_ := g
        refine g_calli (va_runV (As := []) (rest := [.int 6, .ref a0_]) ⟨hx, hb, hml, hown, hts⟩ (r_X8_place l dC dI L kd tys f0 s.heap.size g.2.2.2.1 q0_ mq0_ kq0_) (cwV 0 hts (gV_ t_1220 t_1111 t_1112 t_184 t_1113) rfl rfl rfl (by decide +kernel) ⟨(Nat.le_of_ble_eq_true rfl), (Nat.le_of_ble_eq_true rfl)⟩) (pre3V g hK mq0_ kq0_ (by decide) (q := (RX8, TX8, 10)) rfl) rfl rfl hl.1 rfl (lv_room (Nat.le_of_ble_eq_true rfl)) dX0_openSign_54 ⟨(Nat.le_of_ble_eq_true rfl), (Nat.le_of_ble_eq_true rfl)⟩) g hK (by decide) (by decide) (fx' := [(0, 11, a0_, .int x_1), (0, 0, a0_, .ref q0_), (0, 2, a0_, .ref q1_), (8, 8, q0_, .int y0_)]) rfl (fun r_71 fr_71 H locs hp hMr_71 g => ?_)
        have hG_72 := eOK.frame hMr_71 go_.2.2.2.1 ma0_ ka0_ (by decide) (by decide) hGea0_
        refine lv_iconst (v := 0) hx hb dX0_openSign_57 (by decide) ?_
        obtain ⟨a_73, ma_73, ka_73, g⟩ := g_factr (K := 110) g ma0_ ka0_ (by decide) 3 rfl
        obtain ⟨a_74, ma_74, ka_74, g⟩ := g_factr (K := 112) g ma0_ ka0_ (by decide) 5 rfl
        have kb_6 : bd 6 6 (6 : Int32) := ⟨by decide, by decide⟩
        have kb_0 : bd 0 0 (0 : Int32) := ⟨by decide, by decide⟩
        have go_ := g
        refine g_callv (va_runV (As := [.int 6, .int r_71, .int 0]) (rest := []) ⟨hx, hb, hml, hown, hts⟩ (r_X0_push_2 l dC dI L kd tys fr_71 H.size g.2.2.2.1 a0_ ma0_ ka0_ 6 r_71 0 a_73 ma_73 ka_73 a_74 ma_74 ka_74 hG_72 (erel_bd kb_6 kb_0 (by decide)) (g.fcts [1, 0] rfl)) (cwV 3 hts (gV_ t_1221 t_1223 t_19 t_190 t_1224) rfl rfl rfl (by decide +kernel) ⟨(Nat.le_of_ble_eq_true rfl), (Nat.le_of_ble_eq_true rfl)⟩) (pre3V g hK ma0_ ka0_ (by decide) (q := (RX0, TX0, 14)) rfl) rfl rfl hl.1 rfl (lv_room (Nat.le_of_ble_eq_true rfl)) dX0_openSign_58 ⟨(Nat.le_of_ble_eq_true rfl), (Nat.le_of_ble_eq_true rfl)⟩) g hK (by decide) (by decide) (fx' := [(0, 5, a0_, .ref a_74), (0, 3, a0_, .ref a_73), (0, 11, a0_, .int x_1), (0, 0, a0_, .ref q0_), (0, 2, a0_, .ref q1_), (8, 8, q0_, .int y0_)]) rfl (fun fr_75 H locs hp hMr_75 g => ?_)
        obtain ⟨hG_76, x_77, h_78, hF_79⟩ := hp
        have g := g.more hF_79
        refine lv_aload_n hx hb dX0_openSign_61 rfl (lv_at hl 1 rfl) ?_
        refine g_getk (C := RX0) (T := TX0) (N := 14) hx hb hts (mc_ inX0) hown hK g rfl 2 (by decide) rfl (hts _ (List.mem_cons_of_mem _ t_375)) (fun _ h9 => h9) 5 rfl dX0_openSign_62 ?_
        refine lv_dup hx hb dX0_openSign_65 rfl ?_
        refine g_geti (C := RX7) (T := TX7) (N := 19) hx hb hts (mc_ inX7) hown hK g mq1_ kq1_ (by decide) rfl 18 (by decide) rfl (hts _ (List.mem_cons_of_mem _ t_681)) (fun _ h9 => h9) rfl dX0_openSign_66 (fun x_80 bx_80 g => ?_)
        refine lv_iload_n hx hb dX0_openSign_69 rfl (lv_at hl 2 rfl) ?_
        refine lv_bipush (v := 40) hx hb dX0_openSign_70 (by decide) ?_
        refine lv_icmp_ne (tgt := 79) hx hb dX0_openSign_72 (by decide) (fun c_81 => ?_) (fun c_81 => ?_)
        · have fc_81 := neq_f c_81
          refine lv_iconst (v := 1) hx hb dX0_openSign_79 (by decide) ?_
          have kb_1 : bd 1 1 (1 : Int32) := ⟨by decide, by decide⟩
          refine lv_iadd hx hb dX0_openSign_80 ?_
          refine lv_topi (fun y_82 ey_82 => ?_)
          have go_ := g
          refine g_put (C := RX7) (T := TX7) (N := 19) hx hb hts (mc_ inX7) tyX7 tyX7_ok nmX7 hown hK g mq1_ kq1_ (by decide) rfl 18 (by decide) (hts _ (List.mem_cons_of_mem _ t_681)) (fun _ h9 => h9) rfl rfl (okV_i (bdT y_82)) rfl rfl (by decide) (Or.inr (Or.inl (by decide))) (fx' := [(0, 8, a0_, .int x_77), (0, 5, a0_, .ref a_74), (0, 3, a0_, .ref a_73), (0, 11, a0_, .int x_1), (0, 0, a0_, .ref q0_), (0, 2, a0_, .ref q1_), (8, 8, q0_, .int y0_)]) rfl dX0_openSign_81 (fun f H locs hM_83 g => ?_)
          have hG_84 := eOK.frame hM_83 go_.2.2.2.1 ma0_ ka0_ (by decide) (by decide) hG_76
          refine lv_aload_n hx hb dX0_openSign_84 rfl (lv_at hl 1 rfl) ?_
          refine lv_dup hx hb dX0_openSign_85 rfl ?_
          refine g_getk (C := RX0) (T := TX0) (N := 14) hx hb hts (mc_ inX0) hown hK g rfl 11 (by decide) rfl (hts _ (List.mem_cons_of_mem _ t_384)) (fun _ h9 => h9) 4 rfl dX0_openSign_86 ?_
          refine lv_iconst (v := 1) hx hb dX0_openSign_89 (by decide) ?_
          refine lv_iadd hx hb dX0_openSign_90 ?_
          refine lv_topi (fun y_85 ey_85 => ?_)
          have ty_85 := add_bd ey_85 b_3 kb_1 (by decide)
          have b_86 : bd (-2147483647) 40 y_85 := add_rg ty_85 b_3 kb_1 (by decide)
          have go_ := g
          refine g_put (C := RX0) (T := TX0) (N := 14) hx hb hts (mc_ inX0) tyX0 tyX0_ok nmX0 hown hK g ma0_ ka0_ (by decide) rfl 11 (by decide) (hts _ (List.mem_cons_of_mem _ t_384)) (fun _ h9 => h9) rfl rfl (okV_i (bd_sub b_86 (by decide))) rfl rfl (by decide) (Or.inr (Or.inl (by decide))) (fx' := [(7, 18, q1_, .int y_82), (0, 8, a0_, .int x_77), (0, 5, a0_, .ref a_74), (0, 3, a0_, .ref a_73), (0, 0, a0_, .ref q0_), (0, 2, a0_, .ref q1_), (8, 8, q0_, .int y0_)]) rfl dX0_openSign_91 (fun f H locs hM_87 g => ?_)
          have hG_88 := eOK.frame hM_87 go_.2.2.2.1 ma0_ ka0_ (by decide) (by decide) hG_84
          refine lv_aload_n hx hb dX0_openSign_94 rfl (lv_at hl 1 rfl) ?_
          refine g_getk (C := RX0) (T := TX0) (N := 14) hx hb hts (mc_ inX0) hown hK g rfl 0 (by decide) rfl (hts _ (List.mem_cons_of_mem _ t_373)) (fun _ h9 => h9) 5 rfl dX0_openSign_95 ?_
          have go_ := g
          refine g_callv (va_runV (As := []) (rest := []) ⟨hx, hb, hml, hown, hts⟩ (r_X8_next l dC dI L kd tys f H.size g.2.2.2.1 q0_ mq0_ kq0_) (cwV 0 hts (gV_ t_1225 t_1103 t_1104 t_184 t_1105) rfl rfl rfl (by decide +kernel) ⟨(Nat.le_of_ble_eq_true rfl), (Nat.le_of_ble_eq_true rfl)⟩) (pre3V g hK mq0_ kq0_ (by decide) (q := (RX8, TX8, 10)) rfl) rfl rfl hl.1 rfl (lv_room (Nat.le_of_ble_eq_true rfl)) dX0_openSign_98 ⟨(Nat.le_of_ble_eq_true rfl), (Nat.le_of_ble_eq_true rfl)⟩) g hK (by decide) (by decide) (fx' := [(0, 11, a0_, .int y_85), (7, 18, q1_, .int y_82), (0, 8, a0_, .int x_77), (0, 5, a0_, .ref a_74), (0, 3, a0_, .ref a_73), (0, 0, a0_, .ref q0_), (0, 2, a0_, .ref q1_), (8, 8, q0_, .int y0_)]) rfl (fun fr_89 H locs hp hMr_89 g => ?_)
          obtain ⟨x_90, h_91, hF_92⟩ := hp
          have hG_93 := eOK.frame hMr_89 go_.2.2.2.1 ma0_ ka0_ (by decide) (by decide) hG_88
          have g := g.more hF_92
          subst hQ
          exact W.vret hx hb hr (fun t ht hW => ⟨⟨_, rfl, Or.inl ⟨hG_93, x_90, h_91, y_85, b_86, x_77, h_78, (g.fcts [0, 1, 3, 8] rfl)⟩, q3_of g hK ht hW⟩, g.2.2.1.F ht⟩) g.2.2.1.2.2 dX0_openSign_101
        · have fc_81 := eq_f c_81
          have b_94 : bd 45 40 x1_ := eqX fc_81 b_69 kb_40 (by decide)
          exact bd_no b_94 (by decide)
      · have fc_70 := eq_f c_70
        have b_95 : bd 45 40 x1_ := eqX fc_70 b_69 kb_40 (by decide)
        exact bd_no b_95 (by decide)
  · have fc_2 := nlt_f c_2
    have b_96 : bd 40 2147483647 x_1 := leR fc_2 kb_40 (bdT x_1) (by decide)
    refine lv_aload_n hx hb dX0_openSign_9 rfl (lv_at hl 0 rfl) ?_
    refine g_getk (C := RX0) (T := TX0) (N := 14) hx hb hts (mc_ inX0) hown hK g rfl 0 (by decide) rfl (hts _ (List.mem_cons_of_mem _ t_373)) (fun _ h9 => h9) 1 rfl dX0_openSign_10 ?_
    refine lv_iconst (v := 4) hx hb dX0_openSign_13 (by decide) ?_
    refine lv_aload_n hx hb dX0_openSign_14 rfl (lv_at hl 0 rfl) ?_
    refine g_getk (C := RX0) (T := TX0) (N := 14) hx hb hts (mc_ inX0) hown hK g rfl 0 (by decide) rfl (hts _ (List.mem_cons_of_mem _ t_373)) (fun _ h9 => h9) 1 rfl dX0_openSign_15 ?_
    have go_ := g
    refine g_calli (va_runV (As := []) (rest := [.int 4, .ref q0_]) ⟨hx, hb, hml, hown, hts⟩ (r_X8_place l dC dI L kd tys f0 s.heap.size g.2.2.2.1 q0_ mq0_ kq0_) (cwV 0 hts (gV_ t_1220 t_1111 t_1112 t_184 t_1113) rfl rfl rfl (by decide +kernel) ⟨(Nat.le_of_ble_eq_true rfl), (Nat.le_of_ble_eq_true rfl)⟩) (pre3V g hK mq0_ kq0_ (by decide) (q := (RX8, TX8, 10)) rfl) rfl rfl hl.1 rfl (lv_room (Nat.le_of_ble_eq_true rfl)) dX0_openSign_18 ⟨(Nat.le_of_ble_eq_true rfl), (Nat.le_of_ble_eq_true rfl)⟩) g hK (by decide) (by decide) (fx' := [(0, 11, a0_, .int x_1), (0, 0, a0_, .ref q0_), (0, 2, a0_, .ref q1_), (8, 8, q0_, .int y0_)]) rfl (fun r_97 fr_97 H locs hp hMr_97 g => ?_)
    have hG_98 := eOK.frame hMr_97 go_.2.2.2.1 ma0_ ka0_ (by decide) (by decide) hGea0_
    have kb_4 : bd 4 4 (4 : Int32) := ⟨by decide, by decide⟩
    have go_ := g
    refine g_callv (va_runV (As := [.int 4, .int r_97]) (rest := []) ⟨hx, hb, hml, hown, hts⟩ (r_X8_fail l dC dI L kd tys fr_97 H.size g.2.2.2.1 q0_ mq0_ kq0_ 4 (bd_sub kb_4 (by decide)) r_97 y0_ by0_ (g.fcts [3] rfl)) (cwV 2 hts (gV_ t_1215 t_1107 t_1108 t_184 t_1109) rfl rfl rfl (by decide +kernel) ⟨(Nat.le_of_ble_eq_true rfl), (Nat.le_of_ble_eq_true rfl)⟩) (pre3V g hK mq0_ kq0_ (by decide) (q := (RX8, TX8, 10)) rfl) rfl rfl hl.1 rfl (lv_room (Nat.le_of_ble_eq_true rfl)) dX0_openSign_21 ⟨(Nat.le_of_ble_eq_true rfl), (Nat.le_of_ble_eq_true rfl)⟩) g hK (by decide) (by decide) (fx' := [(0, 11, a0_, .int x_1), (0, 0, a0_, .ref q0_), (0, 2, a0_, .ref q1_)]) rfl (fun fr_99 H locs hp hMr_99 g => ?_)
    obtain ⟨x_100, h_101, hF_102⟩ := hp
    have hG_103 := eOK.frame hMr_99 go_.2.2.2.1 ma0_ ka0_ (by decide) (by decide) hG_98
    have g := g.more hF_102
    refine lv_iload_n hx hb dX0_openSign_24 rfl (lv_at hl 1 rfl) ?_
    refine lv_bipush (v := 45) hx hb dX0_openSign_25 (by decide) ?_
    have kb_45 : bd 45 45 (45 : Int32) := ⟨by decide, by decide⟩
    refine lv_icmp_ne (tgt := 35) hx hb dX0_openSign_27 (by decide) (fun c_104 => ?_) (fun c_104 => ?_)
    · have fc_104 := neq_f c_104
      refine lv_bipush (v := 7) hx hb dX0_openSign_35 (by decide) ?_
      refine lv_istore_n (lv' := [(2, .int 7), (0, .ref a0_), (1, .int x1_)]) hx hb dX0_openSign_37 rfl hl (by decide) rfl (fun ls hl => ?_)
      refine lv_aload_n hx hb dX0_openSign_38 rfl (lv_at hl 1 rfl) ?_
      refine lv_iload_n hx hb dX0_openSign_39 rfl (lv_at hl 2 rfl) ?_
      refine lv_bipush (v := 40) hx hb dX0_openSign_40 (by decide) ?_
      refine lv_icmp_ne (tgt := 49) hx hb dX0_openSign_42 (by decide) (fun c_105 => ?_) (fun c_105 => ?_)
      · have fc_105 := neq_f c_105
        refine lv_iload_n hx hb dX0_openSign_49 rfl (lv_at hl 0 rfl) ?_
        refine lv_aload_n hx hb dX0_openSign_50 rfl (lv_at hl 1 rfl) ?_
        refine g_getk (C := RX0) (T := TX0) (N := 14) hx hb hts (mc_ inX0) hown hK g rfl 0 (by decide) rfl (hts _ (List.mem_cons_of_mem _ t_373)) (fun _ h9 => h9) 3 rfl dX0_openSign_51 ?_
        have go_ := g
        refine g_calli (va_runV (As := []) (rest := [.int 7, .ref a0_]) ⟨hx, hb, hml, hown, hts⟩ (r_X8_place l dC dI L kd tys fr_99 H.size g.2.2.2.1 q0_ mq0_ kq0_) (cwV 0 hts (gV_ t_1220 t_1111 t_1112 t_184 t_1113) rfl rfl rfl (by decide +kernel) ⟨(Nat.le_of_ble_eq_true rfl), (Nat.le_of_ble_eq_true rfl)⟩) (pre3V g hK mq0_ kq0_ (by decide) (q := (RX8, TX8, 10)) rfl) rfl rfl hl.1 rfl (lv_room (Nat.le_of_ble_eq_true rfl)) dX0_openSign_54 ⟨(Nat.le_of_ble_eq_true rfl), (Nat.le_of_ble_eq_true rfl)⟩) g hK (by decide) (by decide) (fx' := [(8, 6, q0_, .int 1201), (8, 8, q0_, .int x_100), (0, 11, a0_, .int x_1), (0, 0, a0_, .ref q0_), (0, 2, a0_, .ref q1_)]) rfl (fun r_106 fr_106 H locs hp hMr_106 g => ?_)
        have hG_107 := eOK.frame hMr_106 go_.2.2.2.1 ma0_ ka0_ (by decide) (by decide) hG_103
        refine lv_iconst (v := 0) hx hb dX0_openSign_57 (by decide) ?_
        obtain ⟨a_108, ma_108, ka_108, g⟩ := g_factr (K := 110) g ma0_ ka0_ (by decide) 3 rfl
        obtain ⟨a_109, ma_109, ka_109, g⟩ := g_factr (K := 112) g ma0_ ka0_ (by decide) 5 rfl
        have kb_7 : bd 7 7 (7 : Int32) := ⟨by decide, by decide⟩
        have kb_0 : bd 0 0 (0 : Int32) := ⟨by decide, by decide⟩
        have go_ := g
        refine g_callv (va_runV (As := [.int 7, .int r_106, .int 0]) (rest := []) ⟨hx, hb, hml, hown, hts⟩ (r_X0_push_2 l dC dI L kd tys fr_106 H.size g.2.2.2.1 a0_ ma0_ ka0_ 7 r_106 0 a_108 ma_108 ka_108 a_109 ma_109 ka_109 hG_107 (erel_bd kb_7 kb_0 (by decide)) (g.fcts [1, 0] rfl)) (cwV 3 hts (gV_ t_1221 t_1223 t_19 t_190 t_1224) rfl rfl rfl (by decide +kernel) ⟨(Nat.le_of_ble_eq_true rfl), (Nat.le_of_ble_eq_true rfl)⟩) (pre3V g hK ma0_ ka0_ (by decide) (q := (RX0, TX0, 14)) rfl) rfl rfl hl.1 rfl (lv_room (Nat.le_of_ble_eq_true rfl)) dX0_openSign_58 ⟨(Nat.le_of_ble_eq_true rfl), (Nat.le_of_ble_eq_true rfl)⟩) g hK (by decide) (by decide) (fx' := [(0, 5, a0_, .ref a_109), (0, 3, a0_, .ref a_108), (8, 6, q0_, .int 1201), (8, 8, q0_, .int x_100), (0, 11, a0_, .int x_1), (0, 0, a0_, .ref q0_), (0, 2, a0_, .ref q1_)]) rfl (fun fr_110 H locs hp hMr_110 g => ?_)
        obtain ⟨hG_111, x_112, h_113, hF_114⟩ := hp
        have g := g.more hF_114
        refine lv_aload_n hx hb dX0_openSign_61 rfl (lv_at hl 1 rfl) ?_
        refine g_getk (C := RX0) (T := TX0) (N := 14) hx hb hts (mc_ inX0) hown hK g rfl 2 (by decide) rfl (hts _ (List.mem_cons_of_mem _ t_375)) (fun _ h9 => h9) 7 rfl dX0_openSign_62 ?_
        refine lv_dup hx hb dX0_openSign_65 rfl ?_
        refine g_geti (C := RX7) (T := TX7) (N := 19) hx hb hts (mc_ inX7) hown hK g mq1_ kq1_ (by decide) rfl 18 (by decide) rfl (hts _ (List.mem_cons_of_mem _ t_681)) (fun _ h9 => h9) rfl dX0_openSign_66 (fun x_115 bx_115 g => ?_)
        refine lv_iload_n hx hb dX0_openSign_69 rfl (lv_at hl 2 rfl) ?_
        refine lv_bipush (v := 40) hx hb dX0_openSign_70 (by decide) ?_
        refine lv_icmp_ne (tgt := 79) hx hb dX0_openSign_72 (by decide) (fun c_116 => ?_) (fun c_116 => ?_)
        · have fc_116 := neq_f c_116
          refine lv_iconst (v := 1) hx hb dX0_openSign_79 (by decide) ?_
          have kb_1 : bd 1 1 (1 : Int32) := ⟨by decide, by decide⟩
          refine lv_iadd hx hb dX0_openSign_80 ?_
          refine lv_topi (fun y_117 ey_117 => ?_)
          have go_ := g
          refine g_put (C := RX7) (T := TX7) (N := 19) hx hb hts (mc_ inX7) tyX7 tyX7_ok nmX7 hown hK g mq1_ kq1_ (by decide) rfl 18 (by decide) (hts _ (List.mem_cons_of_mem _ t_681)) (fun _ h9 => h9) rfl rfl (okV_i (bdT y_117)) rfl rfl (by decide) (Or.inr (Or.inl (by decide))) (fx' := [(0, 8, a0_, .int x_112), (0, 5, a0_, .ref a_109), (0, 3, a0_, .ref a_108), (8, 6, q0_, .int 1201), (8, 8, q0_, .int x_100), (0, 11, a0_, .int x_1), (0, 0, a0_, .ref q0_), (0, 2, a0_, .ref q1_)]) rfl dX0_openSign_81 (fun f H locs hM_118 g => ?_)
          have hG_119 := eOK.frame hM_118 go_.2.2.2.1 ma0_ ka0_ (by decide) (by decide) hG_111
          refine lv_aload_n hx hb dX0_openSign_84 rfl (lv_at hl 1 rfl) ?_
          refine lv_dup hx hb dX0_openSign_85 rfl ?_
          refine g_getk (C := RX0) (T := TX0) (N := 14) hx hb hts (mc_ inX0) hown hK g rfl 11 (by decide) rfl (hts _ (List.mem_cons_of_mem _ t_384)) (fun _ h9 => h9) 6 rfl dX0_openSign_86 ?_
          refine lv_iconst (v := 1) hx hb dX0_openSign_89 (by decide) ?_
          refine lv_iadd hx hb dX0_openSign_90 ?_
          refine lv_topi (fun y_120 ey_120 => ?_)
          have go_ := g
          refine g_put (C := RX0) (T := TX0) (N := 14) hx hb hts (mc_ inX0) tyX0 tyX0_ok nmX0 hown hK g ma0_ ka0_ (by decide) rfl 11 (by decide) (hts _ (List.mem_cons_of_mem _ t_384)) (fun _ h9 => h9) rfl rfl (okV_i (bdT y_120)) rfl rfl (by decide) (Or.inr (Or.inl (by decide))) (fx' := [(7, 18, q1_, .int y_117), (0, 8, a0_, .int x_112), (0, 5, a0_, .ref a_109), (0, 3, a0_, .ref a_108), (8, 6, q0_, .int 1201), (8, 8, q0_, .int x_100), (0, 0, a0_, .ref q0_), (0, 2, a0_, .ref q1_)]) rfl dX0_openSign_91 (fun f H locs hM_121 g => ?_)
          have hG_122 := eOK.frame hM_121 go_.2.2.2.1 ma0_ ka0_ (by decide) (by decide) hG_119
          refine lv_aload_n hx hb dX0_openSign_94 rfl (lv_at hl 1 rfl) ?_
          refine g_getk (C := RX0) (T := TX0) (N := 14) hx hb hts (mc_ inX0) hown hK g rfl 0 (by decide) rfl (hts _ (List.mem_cons_of_mem _ t_373)) (fun _ h9 => h9) 7 rfl dX0_openSign_95 ?_
          have kb_1201 : bd 1201 1201 (1201 : Int32) := ⟨by decide, by decide⟩
          have go_ := g
          refine g_callv (va_runV (As := []) (rest := []) ⟨hx, hb, hml, hown, hts⟩ (r_X8_next_2 l dC dI L kd tys f H.size g.2.2.2.1 q0_ mq0_ kq0_ 1201 kb_1201 (g.fcts [5] rfl)) (cwV 0 hts (gV_ t_1225 t_1103 t_1104 t_184 t_1105) rfl rfl rfl (by decide +kernel) ⟨(Nat.le_of_ble_eq_true rfl), (Nat.le_of_ble_eq_true rfl)⟩) (pre3V g hK mq0_ kq0_ (by decide) (q := (RX8, TX8, 10)) rfl) rfl rfl hl.1 rfl (lv_room (Nat.le_of_ble_eq_true rfl)) dX0_openSign_98 ⟨(Nat.le_of_ble_eq_true rfl), (Nat.le_of_ble_eq_true rfl)⟩) g hK (by decide) (by decide) (fx' := [(0, 11, a0_, .int y_120), (7, 18, q1_, .int y_117), (0, 8, a0_, .int x_112), (0, 5, a0_, .ref a_109), (0, 3, a0_, .ref a_108), (8, 6, q0_, .int 1201), (8, 8, q0_, .int x_100), (0, 0, a0_, .ref q0_), (0, 2, a0_, .ref q1_)]) rfl (fun fr_123 H locs hp hMr_123 g => ?_)
          have hG_124 := eOK.frame hMr_123 go_.2.2.2.1 ma0_ ka0_ (by decide) (by decide) hG_122
          subst hQ
          exact W.vret hx hb hr (fun t ht hW => ⟨⟨_, rfl, Or.inr (⟨hG_124, x_112, h_113, x_100, h_101, (g.fcts [2, 5, 6] rfl)⟩), q3_of g hK ht hW⟩, g.2.2.1.F ht⟩) g.2.2.1.2.2 dX0_openSign_101
        · have fc_116 := eq_f c_116
          have b_125 : bd 40 40 x1_ := eqX fc_116 (bdT x1_) kb_40 (by decide)
          refine lv_iconst (v := 0) hx hb dX0_openSign_75 (by decide) ?_
          refine lv_goto (tgt := 80) hx hb dX0_openSign_76 (by decide) ?_
          refine lv_iadd hx hb dX0_openSign_80 ?_
          refine lv_topi (fun y_126 ey_126 => ?_)
          have ty_126 := add_bd ey_126 (bdT x_115) kb_0 (by decide)
          have b_127 : bd (-2147483648) 2147483647 y_126 := add_rg ty_126 (bdT x_115) kb_0 (by decide)
          have go_ := g
          refine g_put (C := RX7) (T := TX7) (N := 19) hx hb hts (mc_ inX7) tyX7 tyX7_ok nmX7 hown hK g mq1_ kq1_ (by decide) rfl 18 (by decide) (hts _ (List.mem_cons_of_mem _ t_681)) (fun _ h9 => h9) rfl rfl (okV_i b_127) rfl rfl (by decide) (Or.inr (Or.inl (by decide))) (fx' := [(0, 8, a0_, .int x_112), (0, 5, a0_, .ref a_109), (0, 3, a0_, .ref a_108), (8, 6, q0_, .int 1201), (8, 8, q0_, .int x_100), (0, 11, a0_, .int x_1), (0, 0, a0_, .ref q0_), (0, 2, a0_, .ref q1_)]) rfl dX0_openSign_81 (fun f H locs hM_128 g => ?_)
          have hG_129 := eOK.frame hM_128 go_.2.2.2.1 ma0_ ka0_ (by decide) (by decide) hG_111
          refine lv_aload_n hx hb dX0_openSign_84 rfl (lv_at hl 1 rfl) ?_
          refine lv_dup hx hb dX0_openSign_85 rfl ?_
          refine g_getk (C := RX0) (T := TX0) (N := 14) hx hb hts (mc_ inX0) hown hK g rfl 11 (by decide) rfl (hts _ (List.mem_cons_of_mem _ t_384)) (fun _ h9 => h9) 6 rfl dX0_openSign_86 ?_
          refine lv_iconst (v := 1) hx hb dX0_openSign_89 (by decide) ?_
          have kb_1 : bd 1 1 (1 : Int32) := ⟨by decide, by decide⟩
          refine lv_iadd hx hb dX0_openSign_90 ?_
          refine lv_topi (fun y_130 ey_130 => ?_)
          have go_ := g
          refine g_put (C := RX0) (T := TX0) (N := 14) hx hb hts (mc_ inX0) tyX0 tyX0_ok nmX0 hown hK g ma0_ ka0_ (by decide) rfl 11 (by decide) (hts _ (List.mem_cons_of_mem _ t_384)) (fun _ h9 => h9) rfl rfl (okV_i (bdT y_130)) rfl rfl (by decide) (Or.inr (Or.inl (by decide))) (fx' := [(7, 18, q1_, .int y_126), (0, 8, a0_, .int x_112), (0, 5, a0_, .ref a_109), (0, 3, a0_, .ref a_108), (8, 6, q0_, .int 1201), (8, 8, q0_, .int x_100), (0, 0, a0_, .ref q0_), (0, 2, a0_, .ref q1_)]) rfl dX0_openSign_91 (fun f H locs hM_131 g => ?_)
          have hG_132 := eOK.frame hM_131 go_.2.2.2.1 ma0_ ka0_ (by decide) (by decide) hG_129
          refine lv_aload_n hx hb dX0_openSign_94 rfl (lv_at hl 1 rfl) ?_
          refine g_getk (C := RX0) (T := TX0) (N := 14) hx hb hts (mc_ inX0) hown hK g rfl 0 (by decide) rfl (hts _ (List.mem_cons_of_mem _ t_373)) (fun _ h9 => h9) 7 rfl dX0_openSign_95 ?_
          have kb_1201 : bd 1201 1201 (1201 : Int32) := ⟨by decide, by decide⟩
          have go_ := g
          refine g_callv (va_runV (As := []) (rest := []) ⟨hx, hb, hml, hown, hts⟩ (r_X8_next_2 l dC dI L kd tys f H.size g.2.2.2.1 q0_ mq0_ kq0_ 1201 kb_1201 (g.fcts [5] rfl)) (cwV 0 hts (gV_ t_1225 t_1103 t_1104 t_184 t_1105) rfl rfl rfl (by decide +kernel) ⟨(Nat.le_of_ble_eq_true rfl), (Nat.le_of_ble_eq_true rfl)⟩) (pre3V g hK mq0_ kq0_ (by decide) (q := (RX8, TX8, 10)) rfl) rfl rfl hl.1 rfl (lv_room (Nat.le_of_ble_eq_true rfl)) dX0_openSign_98 ⟨(Nat.le_of_ble_eq_true rfl), (Nat.le_of_ble_eq_true rfl)⟩) g hK (by decide) (by decide) (fx' := [(0, 11, a0_, .int y_130), (7, 18, q1_, .int y_126), (0, 8, a0_, .int x_112), (0, 5, a0_, .ref a_109), (0, 3, a0_, .ref a_108), (8, 6, q0_, .int 1201), (8, 8, q0_, .int x_100), (0, 0, a0_, .ref q0_), (0, 2, a0_, .ref q1_)]) rfl (fun fr_133 H locs hp hMr_133 g => ?_)
          have hG_134 := eOK.frame hMr_133 go_.2.2.2.1 ma0_ ka0_ (by decide) (by decide) hG_132
          subst hQ
          exact W.vret hx hb hr (fun t ht hW => ⟨⟨_, rfl, Or.inr (⟨hG_134, x_112, h_113, x_100, h_101, (g.fcts [2, 5, 6] rfl)⟩), q3_of g hK ht hW⟩, g.2.2.1.F ht⟩) g.2.2.1.2.2 dX0_openSign_101
      · have fc_105 := eq_f c_105
        have b_135 : bd 40 40 x1_ := eqX fc_105 (bdT x1_) kb_40 (by decide)
        refine lv_iconst (v := 1) hx hb dX0_openSign_45 (by decide) ?_
        refine lv_goto (tgt := 50) hx hb dX0_openSign_46 (by decide) ?_
        refine lv_aload_n hx hb dX0_openSign_50 rfl (lv_at hl 1 rfl) ?_
        refine g_getk (C := RX0) (T := TX0) (N := 14) hx hb hts (mc_ inX0) hown hK g rfl 0 (by decide) rfl (hts _ (List.mem_cons_of_mem _ t_373)) (fun _ h9 => h9) 3 rfl dX0_openSign_51 ?_
        have go_ := g
        refine g_calli (va_runV (As := []) (rest := [.int 1, .ref a0_]) ⟨hx, hb, hml, hown, hts⟩ (r_X8_place l dC dI L kd tys fr_99 H.size g.2.2.2.1 q0_ mq0_ kq0_) (cwV 0 hts (gV_ t_1220 t_1111 t_1112 t_184 t_1113) rfl rfl rfl (by decide +kernel) ⟨(Nat.le_of_ble_eq_true rfl), (Nat.le_of_ble_eq_true rfl)⟩) (pre3V g hK mq0_ kq0_ (by decide) (q := (RX8, TX8, 10)) rfl) rfl rfl hl.1 rfl (lv_room (Nat.le_of_ble_eq_true rfl)) dX0_openSign_54 ⟨(Nat.le_of_ble_eq_true rfl), (Nat.le_of_ble_eq_true rfl)⟩) g hK (by decide) (by decide) (fx' := [(8, 6, q0_, .int 1201), (8, 8, q0_, .int x_100), (0, 11, a0_, .int x_1), (0, 0, a0_, .ref q0_), (0, 2, a0_, .ref q1_)]) rfl (fun r_136 fr_136 H locs hp hMr_136 g => ?_)
        have hG_137 := eOK.frame hMr_136 go_.2.2.2.1 ma0_ ka0_ (by decide) (by decide) hG_103
        refine lv_iconst (v := 0) hx hb dX0_openSign_57 (by decide) ?_
        obtain ⟨a_138, ma_138, ka_138, g⟩ := g_factr (K := 110) g ma0_ ka0_ (by decide) 3 rfl
        obtain ⟨a_139, ma_139, ka_139, g⟩ := g_factr (K := 112) g ma0_ ka0_ (by decide) 5 rfl
        have kb_1 : bd 1 1 (1 : Int32) := ⟨by decide, by decide⟩
        have kb_0 : bd 0 0 (0 : Int32) := ⟨by decide, by decide⟩
        have go_ := g
        refine g_callv (va_runV (As := [.int 1, .int r_136, .int 0]) (rest := []) ⟨hx, hb, hml, hown, hts⟩ (r_X0_push_2 l dC dI L kd tys fr_136 H.size g.2.2.2.1 a0_ ma0_ ka0_ 1 r_136 0 a_138 ma_138 ka_138 a_139 ma_139 ka_139 hG_137 (erel_bd kb_1 kb_0 (by decide)) (g.fcts [1, 0] rfl)) (cwV 3 hts (gV_ t_1221 t_1223 t_19 t_190 t_1224) rfl rfl rfl (by decide +kernel) ⟨(Nat.le_of_ble_eq_true rfl), (Nat.le_of_ble_eq_true rfl)⟩) (pre3V g hK ma0_ ka0_ (by decide) (q := (RX0, TX0, 14)) rfl) rfl rfl hl.1 rfl (lv_room (Nat.le_of_ble_eq_true rfl)) dX0_openSign_58 ⟨(Nat.le_of_ble_eq_true rfl), (Nat.le_of_ble_eq_true rfl)⟩) g hK (by decide) (by decide) (fx' := [(0, 5, a0_, .ref a_139), (0, 3, a0_, .ref a_138), (8, 6, q0_, .int 1201), (8, 8, q0_, .int x_100), (0, 11, a0_, .int x_1), (0, 0, a0_, .ref q0_), (0, 2, a0_, .ref q1_)]) rfl (fun fr_140 H locs hp hMr_140 g => ?_)
        obtain ⟨hG_141, x_142, h_143, hF_144⟩ := hp
        have g := g.more hF_144
        refine lv_aload_n hx hb dX0_openSign_61 rfl (lv_at hl 1 rfl) ?_
        refine g_getk (C := RX0) (T := TX0) (N := 14) hx hb hts (mc_ inX0) hown hK g rfl 2 (by decide) rfl (hts _ (List.mem_cons_of_mem _ t_375)) (fun _ h9 => h9) 7 rfl dX0_openSign_62 ?_
        refine lv_dup hx hb dX0_openSign_65 rfl ?_
        refine g_geti (C := RX7) (T := TX7) (N := 19) hx hb hts (mc_ inX7) hown hK g mq1_ kq1_ (by decide) rfl 18 (by decide) rfl (hts _ (List.mem_cons_of_mem _ t_681)) (fun _ h9 => h9) rfl dX0_openSign_66 (fun x_145 bx_145 g => ?_)
        refine lv_iload_n hx hb dX0_openSign_69 rfl (lv_at hl 2 rfl) ?_
        refine lv_bipush (v := 40) hx hb dX0_openSign_70 (by decide) ?_
        refine lv_icmp_ne (tgt := 79) hx hb dX0_openSign_72 (by decide) (fun c_146 => ?_) (fun c_146 => ?_)
        · have fc_146 := neq_f c_146
          have b_147 : bd 41 39 x1_ := neX fc_146 b_135 kb_40 (by decide)
          exact bd_no b_147 (by decide)
        · have fc_146 := eq_f c_146
          refine lv_iconst (v := 0) hx hb dX0_openSign_75 (by decide) ?_
          refine lv_goto (tgt := 80) hx hb dX0_openSign_76 (by decide) ?_
          refine lv_iadd hx hb dX0_openSign_80 ?_
          refine lv_topi (fun y_148 ey_148 => ?_)
          have ty_148 := add_bd ey_148 (bdT x_145) kb_0 (by decide)
          have b_149 : bd (-2147483648) 2147483647 y_148 := add_rg ty_148 (bdT x_145) kb_0 (by decide)
          have go_ := g
          refine g_put (C := RX7) (T := TX7) (N := 19) hx hb hts (mc_ inX7) tyX7 tyX7_ok nmX7 hown hK g mq1_ kq1_ (by decide) rfl 18 (by decide) (hts _ (List.mem_cons_of_mem _ t_681)) (fun _ h9 => h9) rfl rfl (okV_i b_149) rfl rfl (by decide) (Or.inr (Or.inl (by decide))) (fx' := [(0, 8, a0_, .int x_142), (0, 5, a0_, .ref a_139), (0, 3, a0_, .ref a_138), (8, 6, q0_, .int 1201), (8, 8, q0_, .int x_100), (0, 11, a0_, .int x_1), (0, 0, a0_, .ref q0_), (0, 2, a0_, .ref q1_)]) rfl dX0_openSign_81 (fun f H locs hM_150 g => ?_)
          have hG_151 := eOK.frame hM_150 go_.2.2.2.1 ma0_ ka0_ (by decide) (by decide) hG_141
          refine lv_aload_n hx hb dX0_openSign_84 rfl (lv_at hl 1 rfl) ?_
          refine lv_dup hx hb dX0_openSign_85 rfl ?_
          refine g_getk (C := RX0) (T := TX0) (N := 14) hx hb hts (mc_ inX0) hown hK g rfl 11 (by decide) rfl (hts _ (List.mem_cons_of_mem _ t_384)) (fun _ h9 => h9) 6 rfl dX0_openSign_86 ?_
          refine lv_iconst (v := 1) hx hb dX0_openSign_89 (by decide) ?_
          refine lv_iadd hx hb dX0_openSign_90 ?_
          refine lv_topi (fun y_152 ey_152 => ?_)
          have go_ := g
          refine g_put (C := RX0) (T := TX0) (N := 14) hx hb hts (mc_ inX0) tyX0 tyX0_ok nmX0 hown hK g ma0_ ka0_ (by decide) rfl 11 (by decide) (hts _ (List.mem_cons_of_mem _ t_384)) (fun _ h9 => h9) rfl rfl (okV_i (bdT y_152)) rfl rfl (by decide) (Or.inr (Or.inl (by decide))) (fx' := [(7, 18, q1_, .int y_148), (0, 8, a0_, .int x_142), (0, 5, a0_, .ref a_139), (0, 3, a0_, .ref a_138), (8, 6, q0_, .int 1201), (8, 8, q0_, .int x_100), (0, 0, a0_, .ref q0_), (0, 2, a0_, .ref q1_)]) rfl dX0_openSign_91 (fun f H locs hM_153 g => ?_)
          have hG_154 := eOK.frame hM_153 go_.2.2.2.1 ma0_ ka0_ (by decide) (by decide) hG_151
          refine lv_aload_n hx hb dX0_openSign_94 rfl (lv_at hl 1 rfl) ?_
          refine g_getk (C := RX0) (T := TX0) (N := 14) hx hb hts (mc_ inX0) hown hK g rfl 0 (by decide) rfl (hts _ (List.mem_cons_of_mem _ t_373)) (fun _ h9 => h9) 7 rfl dX0_openSign_95 ?_
          have kb_1201 : bd 1201 1201 (1201 : Int32) := ⟨by decide, by decide⟩
          have go_ := g
          refine g_callv (va_runV (As := []) (rest := []) ⟨hx, hb, hml, hown, hts⟩ (r_X8_next_2 l dC dI L kd tys f H.size g.2.2.2.1 q0_ mq0_ kq0_ 1201 kb_1201 (g.fcts [5] rfl)) (cwV 0 hts (gV_ t_1225 t_1103 t_1104 t_184 t_1105) rfl rfl rfl (by decide +kernel) ⟨(Nat.le_of_ble_eq_true rfl), (Nat.le_of_ble_eq_true rfl)⟩) (pre3V g hK mq0_ kq0_ (by decide) (q := (RX8, TX8, 10)) rfl) rfl rfl hl.1 rfl (lv_room (Nat.le_of_ble_eq_true rfl)) dX0_openSign_98 ⟨(Nat.le_of_ble_eq_true rfl), (Nat.le_of_ble_eq_true rfl)⟩) g hK (by decide) (by decide) (fx' := [(0, 11, a0_, .int y_152), (7, 18, q1_, .int y_148), (0, 8, a0_, .int x_142), (0, 5, a0_, .ref a_139), (0, 3, a0_, .ref a_138), (8, 6, q0_, .int 1201), (8, 8, q0_, .int x_100), (0, 0, a0_, .ref q0_), (0, 2, a0_, .ref q1_)]) rfl (fun fr_155 H locs hp hMr_155 g => ?_)
          have hG_156 := eOK.frame hMr_155 go_.2.2.2.1 ma0_ ka0_ (by decide) (by decide) hG_154
          subst hQ
          exact W.vret hx hb hr (fun t ht hW => ⟨⟨_, rfl, Or.inr (⟨hG_156, x_142, h_143, x_100, h_101, (g.fcts [2, 5, 6] rfl)⟩), q3_of g hK ht hW⟩, g.2.2.1.F ht⟩) g.2.2.1.2.2 dX0_openSign_101
    · have fc_104 := eq_f c_104
      have b_157 : bd 45 45 x1_ := eqX fc_104 (bdT x1_) kb_45 (by decide)
      refine lv_bipush (v := 6) hx hb dX0_openSign_30 (by decide) ?_
      refine lv_goto (tgt := 37) hx hb dX0_openSign_32 (by decide) ?_
      refine lv_istore_n (lv' := [(2, .int 6), (0, .ref a0_), (1, .int x1_)]) hx hb dX0_openSign_37 rfl hl (by decide) rfl (fun ls hl => ?_)
      refine lv_aload_n hx hb dX0_openSign_38 rfl (lv_at hl 1 rfl) ?_
      refine lv_iload_n hx hb dX0_openSign_39 rfl (lv_at hl 2 rfl) ?_
      refine lv_bipush (v := 40) hx hb dX0_openSign_40 (by decide) ?_
      refine lv_icmp_ne (tgt := 49) hx hb dX0_openSign_42 (by decide) (fun c_158 => ?_) (fun c_158 => ?_)
      · have fc_158 := neq_f c_158
        refine lv_iload_n hx hb dX0_openSign_49 rfl (lv_at hl 0 rfl) ?_
        refine lv_aload_n hx hb dX0_openSign_50 rfl (lv_at hl 1 rfl) ?_
        refine g_getk (C := RX0) (T := TX0) (N := 14) hx hb hts (mc_ inX0) hown hK g rfl 0 (by decide) rfl (hts _ (List.mem_cons_of_mem _ t_373)) (fun _ h9 => h9) 3 rfl dX0_openSign_51 ?_
        have go_ := g
        refine g_calli (va_runV (As := []) (rest := [.int 6, .ref a0_]) ⟨hx, hb, hml, hown, hts⟩ (r_X8_place l dC dI L kd tys fr_99 H.size g.2.2.2.1 q0_ mq0_ kq0_) (cwV 0 hts (gV_ t_1220 t_1111 t_1112 t_184 t_1113) rfl rfl rfl (by decide +kernel) ⟨(Nat.le_of_ble_eq_true rfl), (Nat.le_of_ble_eq_true rfl)⟩) (pre3V g hK mq0_ kq0_ (by decide) (q := (RX8, TX8, 10)) rfl) rfl rfl hl.1 rfl (lv_room (Nat.le_of_ble_eq_true rfl)) dX0_openSign_54 ⟨(Nat.le_of_ble_eq_true rfl), (Nat.le_of_ble_eq_true rfl)⟩) g hK (by decide) (by decide) (fx' := [(8, 6, q0_, .int 1201), (8, 8, q0_, .int x_100), (0, 11, a0_, .int x_1), (0, 0, a0_, .ref q0_), (0, 2, a0_, .ref q1_)]) rfl (fun r_159 fr_159 H locs hp hMr_159 g => ?_)
        have hG_160 := eOK.frame hMr_159 go_.2.2.2.1 ma0_ ka0_ (by decide) (by decide) hG_103
        refine lv_iconst (v := 0) hx hb dX0_openSign_57 (by decide) ?_
        obtain ⟨a_161, ma_161, ka_161, g⟩ := g_factr (K := 110) g ma0_ ka0_ (by decide) 3 rfl
        obtain ⟨a_162, ma_162, ka_162, g⟩ := g_factr (K := 112) g ma0_ ka0_ (by decide) 5 rfl
        have kb_6 : bd 6 6 (6 : Int32) := ⟨by decide, by decide⟩
        have kb_0 : bd 0 0 (0 : Int32) := ⟨by decide, by decide⟩
        have go_ := g
        refine g_callv (va_runV (As := [.int 6, .int r_159, .int 0]) (rest := []) ⟨hx, hb, hml, hown, hts⟩ (r_X0_push_2 l dC dI L kd tys fr_159 H.size g.2.2.2.1 a0_ ma0_ ka0_ 6 r_159 0 a_161 ma_161 ka_161 a_162 ma_162 ka_162 hG_160 (erel_bd kb_6 kb_0 (by decide)) (g.fcts [1, 0] rfl)) (cwV 3 hts (gV_ t_1221 t_1223 t_19 t_190 t_1224) rfl rfl rfl (by decide +kernel) ⟨(Nat.le_of_ble_eq_true rfl), (Nat.le_of_ble_eq_true rfl)⟩) (pre3V g hK ma0_ ka0_ (by decide) (q := (RX0, TX0, 14)) rfl) rfl rfl hl.1 rfl (lv_room (Nat.le_of_ble_eq_true rfl)) dX0_openSign_58 ⟨(Nat.le_of_ble_eq_true rfl), (Nat.le_of_ble_eq_true rfl)⟩) g hK (by decide) (by decide) (fx' := [(0, 5, a0_, .ref a_162), (0, 3, a0_, .ref a_161), (8, 6, q0_, .int 1201), (8, 8, q0_, .int x_100), (0, 11, a0_, .int x_1), (0, 0, a0_, .ref q0_), (0, 2, a0_, .ref q1_)]) rfl (fun fr_163 H locs hp hMr_163 g => ?_)
        obtain ⟨hG_164, x_165, h_166, hF_167⟩ := hp
        have g := g.more hF_167
        refine lv_aload_n hx hb dX0_openSign_61 rfl (lv_at hl 1 rfl) ?_
        refine g_getk (C := RX0) (T := TX0) (N := 14) hx hb hts (mc_ inX0) hown hK g rfl 2 (by decide) rfl (hts _ (List.mem_cons_of_mem _ t_375)) (fun _ h9 => h9) 7 rfl dX0_openSign_62 ?_
        refine lv_dup hx hb dX0_openSign_65 rfl ?_
        refine g_geti (C := RX7) (T := TX7) (N := 19) hx hb hts (mc_ inX7) hown hK g mq1_ kq1_ (by decide) rfl 18 (by decide) rfl (hts _ (List.mem_cons_of_mem _ t_681)) (fun _ h9 => h9) rfl dX0_openSign_66 (fun x_168 bx_168 g => ?_)
        refine lv_iload_n hx hb dX0_openSign_69 rfl (lv_at hl 2 rfl) ?_
        refine lv_bipush (v := 40) hx hb dX0_openSign_70 (by decide) ?_
        refine lv_icmp_ne (tgt := 79) hx hb dX0_openSign_72 (by decide) (fun c_169 => ?_) (fun c_169 => ?_)
        · have fc_169 := neq_f c_169
          refine lv_iconst (v := 1) hx hb dX0_openSign_79 (by decide) ?_
          have kb_1 : bd 1 1 (1 : Int32) := ⟨by decide, by decide⟩
          refine lv_iadd hx hb dX0_openSign_80 ?_
          refine lv_topi (fun y_170 ey_170 => ?_)
          have go_ := g
          refine g_put (C := RX7) (T := TX7) (N := 19) hx hb hts (mc_ inX7) tyX7 tyX7_ok nmX7 hown hK g mq1_ kq1_ (by decide) rfl 18 (by decide) (hts _ (List.mem_cons_of_mem _ t_681)) (fun _ h9 => h9) rfl rfl (okV_i (bdT y_170)) rfl rfl (by decide) (Or.inr (Or.inl (by decide))) (fx' := [(0, 8, a0_, .int x_165), (0, 5, a0_, .ref a_162), (0, 3, a0_, .ref a_161), (8, 6, q0_, .int 1201), (8, 8, q0_, .int x_100), (0, 11, a0_, .int x_1), (0, 0, a0_, .ref q0_), (0, 2, a0_, .ref q1_)]) rfl dX0_openSign_81 (fun f H locs hM_171 g => ?_)
          have hG_172 := eOK.frame hM_171 go_.2.2.2.1 ma0_ ka0_ (by decide) (by decide) hG_164
          refine lv_aload_n hx hb dX0_openSign_84 rfl (lv_at hl 1 rfl) ?_
          refine lv_dup hx hb dX0_openSign_85 rfl ?_
          refine g_getk (C := RX0) (T := TX0) (N := 14) hx hb hts (mc_ inX0) hown hK g rfl 11 (by decide) rfl (hts _ (List.mem_cons_of_mem _ t_384)) (fun _ h9 => h9) 6 rfl dX0_openSign_86 ?_
          refine lv_iconst (v := 1) hx hb dX0_openSign_89 (by decide) ?_
          refine lv_iadd hx hb dX0_openSign_90 ?_
          refine lv_topi (fun y_173 ey_173 => ?_)
          have go_ := g
          refine g_put (C := RX0) (T := TX0) (N := 14) hx hb hts (mc_ inX0) tyX0 tyX0_ok nmX0 hown hK g ma0_ ka0_ (by decide) rfl 11 (by decide) (hts _ (List.mem_cons_of_mem _ t_384)) (fun _ h9 => h9) rfl rfl (okV_i (bdT y_173)) rfl rfl (by decide) (Or.inr (Or.inl (by decide))) (fx' := [(7, 18, q1_, .int y_170), (0, 8, a0_, .int x_165), (0, 5, a0_, .ref a_162), (0, 3, a0_, .ref a_161), (8, 6, q0_, .int 1201), (8, 8, q0_, .int x_100), (0, 0, a0_, .ref q0_), (0, 2, a0_, .ref q1_)]) rfl dX0_openSign_91 (fun f H locs hM_174 g => ?_)
          have hG_175 := eOK.frame hM_174 go_.2.2.2.1 ma0_ ka0_ (by decide) (by decide) hG_172
          refine lv_aload_n hx hb dX0_openSign_94 rfl (lv_at hl 1 rfl) ?_
          refine g_getk (C := RX0) (T := TX0) (N := 14) hx hb hts (mc_ inX0) hown hK g rfl 0 (by decide) rfl (hts _ (List.mem_cons_of_mem _ t_373)) (fun _ h9 => h9) 7 rfl dX0_openSign_95 ?_
          have kb_1201 : bd 1201 1201 (1201 : Int32) := ⟨by decide, by decide⟩
          have go_ := g
          refine g_callv (va_runV (As := []) (rest := []) ⟨hx, hb, hml, hown, hts⟩ (r_X8_next_2 l dC dI L kd tys f H.size g.2.2.2.1 q0_ mq0_ kq0_ 1201 kb_1201 (g.fcts [5] rfl)) (cwV 0 hts (gV_ t_1225 t_1103 t_1104 t_184 t_1105) rfl rfl rfl (by decide +kernel) ⟨(Nat.le_of_ble_eq_true rfl), (Nat.le_of_ble_eq_true rfl)⟩) (pre3V g hK mq0_ kq0_ (by decide) (q := (RX8, TX8, 10)) rfl) rfl rfl hl.1 rfl (lv_room (Nat.le_of_ble_eq_true rfl)) dX0_openSign_98 ⟨(Nat.le_of_ble_eq_true rfl), (Nat.le_of_ble_eq_true rfl)⟩) g hK (by decide) (by decide) (fx' := [(0, 11, a0_, .int y_173), (7, 18, q1_, .int y_170), (0, 8, a0_, .int x_165), (0, 5, a0_, .ref a_162), (0, 3, a0_, .ref a_161), (8, 6, q0_, .int 1201), (8, 8, q0_, .int x_100), (0, 0, a0_, .ref q0_), (0, 2, a0_, .ref q1_)]) rfl (fun fr_176 H locs hp hMr_176 g => ?_)
          have hG_177 := eOK.frame hMr_176 go_.2.2.2.1 ma0_ ka0_ (by decide) (by decide) hG_175
          subst hQ
          exact W.vret hx hb hr (fun t ht hW => ⟨⟨_, rfl, Or.inr (⟨hG_177, x_165, h_166, x_100, h_101, (g.fcts [2, 5, 6] rfl)⟩), q3_of g hK ht hW⟩, g.2.2.1.F ht⟩) g.2.2.1.2.2 dX0_openSign_101
        · have fc_169 := eq_f c_169
          have b_178 : bd 45 40 x1_ := eqX fc_169 b_157 kb_40 (by decide)
          exact bd_no b_178 (by decide)
      · have fc_158 := eq_f c_158
        have b_179 : bd 45 40 x1_ := eqX fc_158 b_157 kb_40 (by decide)
        exact bd_no b_179 (by decide)
set_option maxHeartbeats 4000000 in
set_option maxRecDepth 100000 in
theorem r_X0_openIndex_2 (l : Launch) (dC : Nat → ClassId) (dI : Nat → Nat → Nat) (L : List Nat) (kd : Nat → Nat) (tys : List (ClassId × FieldType)) (f0 : Nat → va_E) (sz : Nat) (hWT : WT L kd tys f0) (a0_ : Nat) (ma0_ : a0_ ∈ L) (ka0_ : kd a0_ = 0) (x1_ : Int32) (bx1_ : bd 5 5 x1_) (x2_ : Int32) (x3_ : Int32) (bx3_ : bd 0 9 x3_) (q0_ : Nat) (mq0_ : q0_ ∈ L) (kq0_ : kd q0_ = 8) (q1_ : Nat) (mq1_ : q1_ ∈ L) (kq1_ : kd q1_ = 5) (q2_ : Nat) (mq2_ : q2_ ∈ L) (kq2_ : kd q2_ = 9) (y0_ : Int32) (by0_ : bd (-2147483647) 40 y0_) (y1_ : Int32) (by1_ : bd 1 10 y1_) (y2_ : Int32) (by2_ : bd 0 0 y2_) (hGea0_ : eOK f0 a0_) (hfx : Fs L kd f0 [(0, 0, a0_, .ref q0_), (0, 1, a0_, .ref q1_), (5, 1, q1_, .ref q2_), (0, 11, a0_, .int y0_), (9, 2, q2_, .int y1_), (8, 8, q0_, .int y2_)]) : Met l yX0_openIndex (.code yX0_openIndex cX0_openIndex 4 none :: lw_g) ({ frames := 1, cells := 0, slots := 0, locals := 23 }) (va_Pc [.ref a0_, .int x1_, .int x2_, .int x3_] (P3 (dC, dI) L tys f0 sz)) (va_Qv (fun (f : Nat → va_E) => (eOK f a0_ ∧ bd (-2147483647) 39 y0_ ∧ ∃ z0_ : Int32, bd 1 1201 z0_ ∧ ∃ z1_ : Int32, bd (-2147483646) 40 z1_ ∧ ∃ z2_ : Int32, bd 1 300 z2_ ∧ Fs L kd f [(8, 6, q0_, .int z0_), (0, 11, a0_, .int z1_), (0, 8, a0_, .int z2_), (8, 8, q0_, .int y2_)]) ∨ (eOK f a0_ ∧ bd 40 40 y0_ ∧ ∃ z0_ : Int32, bd 41 41 z0_ ∧ ∃ z1_ : Int32, bd 1 300 z1_ ∧ ∃ z3_ : Int32, bd 1 7 z3_ ∧ Fs L kd f [(0, 11, a0_, .int z0_), (0, 8, a0_, .int z1_), (8, 6, q0_, .int 1201), (8, 8, q0_, .int z3_)])) (Q3 (dC, dI) L kd tys [(0, 8), (0, 11), (8, 6), (8, 8), (8, 9)] [110, 111, 112, 113, 114] f0 sz) (pA L sz)) 0 0 (pA L sz) := by
  refine Met.ofW (cc := cX0_openIndex) (maxL := 4) (ret := none) (by decide) rfl ?_
  intro p e s m args below meth c s₁ B hml hv
  obtain ⟨rfl, hsz, hP, hK, hD0⟩ := hv
  have hx := B.exec
  have hb := B.bytes
  have hr := B.returns
  have hts := atoms_spec (ws := (.code yX0_openIndex cX0_openIndex 4 none :: lw_g)) B.pre
  have hown : s.vm.findClass RX0 = some m.cls := findClass_of_methodNamed B.named
  have hlocks := B.notSynchronized
  subst hsz
  have g : G3 (dC, dI) L kd tys s f0 [(0, 8), (0, 11), (8, 6), (8, 8), (8, 9)] [110, 111, 112, 113, 114] f0 s.heap [] [(0, 0, a0_, .ref q0_), (0, 1, a0_, .ref q1_), (5, 1, q1_, .ref q2_), (0, 11, a0_, .int y0_), (9, 2, q2_, .int y1_), (8, 8, q0_, .int y2_)] := G3.start hP hD0 hWT hfx
  have hl := lv_entry ([.ref a0_, .int x1_, .int x2_, .int x3_]) (n := 4) (Nat.le_of_ble_eq_true rfl)
  rw [lg_entry_eq]
  generalize (lg_sl ([.ref a0_, .int x1_, .int x2_, .int x3_]) ++ List.replicate (4 - (lg_sl ([.ref a0_, .int x1_, .int x2_, .int x3_])).length) Slot.unset).toArray = ls at hl ⊢
  have hl : lv_has ls 4 [(0, .ref a0_), (1, .int x1_), (2, .int x2_), (3, .int x3_)] := hl
  refine W_q (fun Q hQ => ?_)
  refine lv_aload_n hx hb dX0_openIndex_0 rfl (lv_at hl 0 rfl) ?_
  refine g_getk (C := RX0) (T := TX0) (N := 14) hx hb hts (mc_ inX0) hown hK g rfl 11 (by decide) rfl (hts _ (List.mem_cons_of_mem _ t_384)) (fun _ h9 => h9) 3 rfl dX0_openIndex_1 ?_
  refine lv_bipush (v := 40) hx hb dX0_openIndex_4 (by decide) ?_
  have kb_40 : bd 40 40 (40 : Int32) := ⟨by decide, by decide⟩
  refine lv_icmp_lt (tgt := 24) hx hb dX0_openIndex_6 (by decide) (fun c_1 => ?_) (fun c_1 => ?_)
  · have fc_1 := lt_f c_1
    have b_2 : bd (-2147483647) 39 y0_ := ltL fc_1 by0_ kb_40 (by decide)
    refine lv_aload_n hx hb dX0_openIndex_24 rfl (lv_at hl 0 rfl) ?_
    refine lv_iload_n hx hb dX0_openIndex_25 rfl (lv_at hl 1 rfl) ?_
    refine lv_iload_n hx hb dX0_openIndex_26 rfl (lv_at hl 2 rfl) ?_
    refine lv_aload_n hx hb dX0_openIndex_27 rfl (lv_at hl 0 rfl) ?_
    refine g_getk (C := RX0) (T := TX0) (N := 14) hx hb hts (mc_ inX0) hown hK g rfl 1 (by decide) rfl (hts _ (List.mem_cons_of_mem _ t_374)) (fun _ h9 => h9) 1 rfl dX0_openIndex_28 ?_
    refine g_getk (C := RX5) (T := TX5) (N := 9) hx hb hts (mc_ inX5) hown hK g rfl 1 (by decide) rfl (hts _ (List.mem_cons_of_mem _ t_332)) (fun _ h9 => h9) 2 rfl dX0_openIndex_31 ?_
    refine lv_iload_n hx hb dX0_openIndex_34 rfl (lv_at hl 3 rfl) ?_
    have go_ := g
    refine g_calli (va_runV (As := [.int x3_]) (rest := [.int x2_, .int x1_, .ref a0_]) ⟨hx, hb, hml, hown, hts⟩ (r_X9_spanOf l dC dI L kd tys f0 s.heap.size g.2.2.2.1 q2_ mq2_ kq2_ x3_) (cwV 1 hts (gV_ t_1264 t_1265 t_1266 t_192 t_1267) rfl rfl rfl (by decide +kernel) ⟨(Nat.le_of_ble_eq_true rfl), (Nat.le_of_ble_eq_true rfl)⟩) (pre3V g hK mq2_ kq2_ (by decide) (q := (RX9, TX9, 13)) rfl) rfl rfl hl.1 rfl (lv_room (Nat.le_of_ble_eq_true rfl)) dX0_openIndex_35 ⟨(Nat.le_of_ble_eq_true rfl), (Nat.le_of_ble_eq_true rfl)⟩) g hK (by decide) (by decide) (fx' := [(0, 0, a0_, .ref q0_), (0, 1, a0_, .ref q1_), (5, 1, q1_, .ref q2_), (0, 11, a0_, .int y0_), (9, 2, q2_, .int y1_), (8, 8, q0_, .int y2_)]) rfl (fun r_3 fr_3 H locs hp hMr_3 g => ?_)
    obtain ⟨h_4, -⟩ := hp
    have hG_5 := eOK.frame hMr_3 go_.2.2.2.1 ma0_ ka0_ (by decide) (by decide) hGea0_
    obtain ⟨a_6, ma_6, ka_6, g⟩ := g_factr (K := 110) g ma0_ ka0_ (by decide) 3 rfl
    obtain ⟨a_7, ma_7, ka_7, g⟩ := g_factr (K := 112) g ma0_ ka0_ (by decide) 5 rfl
    have go_ := g
    refine g_callv (va_runV (As := [.int x1_, .int x2_, .int r_3]) (rest := []) ⟨hx, hb, hml, hown, hts⟩ (r_X0_push_2 l dC dI L kd tys fr_3 H.size g.2.2.2.1 a0_ ma0_ ka0_ x1_ x2_ r_3 a_6 ma_6 ka_6 a_7 ma_7 ka_7 hG_5 (erel_bd bx1_ h_4 (by decide)) (g.fcts [1, 0] rfl)) (cwV 3 hts (gV_ t_1221 t_1223 t_19 t_190 t_1224) rfl rfl rfl (by decide +kernel) ⟨(Nat.le_of_ble_eq_true rfl), (Nat.le_of_ble_eq_true rfl)⟩) (pre3V g hK ma0_ ka0_ (by decide) (q := (RX0, TX0, 14)) rfl) rfl rfl hl.1 rfl (lv_room (Nat.le_of_ble_eq_true rfl)) dX0_openIndex_38 ⟨(Nat.le_of_ble_eq_true rfl), (Nat.le_of_ble_eq_true rfl)⟩) g hK (by decide) (by decide) (fx' := [(0, 5, a0_, .ref a_7), (0, 3, a0_, .ref a_6), (0, 0, a0_, .ref q0_), (0, 1, a0_, .ref q1_), (5, 1, q1_, .ref q2_), (0, 11, a0_, .int y0_), (9, 2, q2_, .int y1_), (8, 8, q0_, .int y2_)]) rfl (fun fr_8 H locs hp hMr_8 g => ?_)
    obtain ⟨hG_9, x_10, h_11, hF_12⟩ := hp
    have g := g.more hF_12
    refine lv_aload_n hx hb dX0_openIndex_41 rfl (lv_at hl 0 rfl) ?_
    refine lv_dup hx hb dX0_openIndex_42 rfl ?_
    refine g_getk (C := RX0) (T := TX0) (N := 14) hx hb hts (mc_ inX0) hown hK g rfl 11 (by decide) rfl (hts _ (List.mem_cons_of_mem _ t_384)) (fun _ h9 => h9) 6 rfl dX0_openIndex_43 ?_
    refine lv_iconst (v := 1) hx hb dX0_openIndex_46 (by decide) ?_
    have kb_1 : bd 1 1 (1 : Int32) := ⟨by decide, by decide⟩
    refine lv_iadd hx hb dX0_openIndex_47 ?_
    refine lv_topi (fun y_13 ey_13 => ?_)
    have ty_13 := add_bd ey_13 b_2 kb_1 (by decide)
    have b_14 : bd (-2147483646) 40 y_13 := add_rg ty_13 b_2 kb_1 (by decide)
    have go_ := g
    refine g_put (C := RX0) (T := TX0) (N := 14) hx hb hts (mc_ inX0) tyX0 tyX0_ok nmX0 hown hK g ma0_ ka0_ (by decide) rfl 11 (by decide) (hts _ (List.mem_cons_of_mem _ t_384)) (fun _ h9 => h9) rfl rfl (okV_i (bd_sub b_14 (by decide))) rfl rfl (by decide) (Or.inr (Or.inl (by decide))) (fx' := [(0, 8, a0_, .int x_10), (0, 5, a0_, .ref a_7), (0, 3, a0_, .ref a_6), (0, 0, a0_, .ref q0_), (0, 1, a0_, .ref q1_), (5, 1, q1_, .ref q2_), (9, 2, q2_, .int y1_), (8, 8, q0_, .int y2_)]) rfl dX0_openIndex_48 (fun f H locs hM_15 g => ?_)
    have hG_16 := eOK.frame hM_15 go_.2.2.2.1 ma0_ ka0_ (by decide) (by decide) hG_9
    refine lv_aload_n hx hb dX0_openIndex_51 rfl (lv_at hl 0 rfl) ?_
    refine g_getk (C := RX0) (T := TX0) (N := 14) hx hb hts (mc_ inX0) hown hK g rfl 0 (by decide) rfl (hts _ (List.mem_cons_of_mem _ t_373)) (fun _ h9 => h9) 4 rfl dX0_openIndex_52 ?_
    have go_ := g
    refine g_callv (va_runV (As := []) (rest := []) ⟨hx, hb, hml, hown, hts⟩ (r_X8_next l dC dI L kd tys f H.size g.2.2.2.1 q0_ mq0_ kq0_) (cwV 0 hts (gV_ t_1225 t_1103 t_1104 t_184 t_1105) rfl rfl rfl (by decide +kernel) ⟨(Nat.le_of_ble_eq_true rfl), (Nat.le_of_ble_eq_true rfl)⟩) (pre3V g hK mq0_ kq0_ (by decide) (q := (RX8, TX8, 10)) rfl) rfl rfl hl.1 rfl (lv_room (Nat.le_of_ble_eq_true rfl)) dX0_openIndex_55 ⟨(Nat.le_of_ble_eq_true rfl), (Nat.le_of_ble_eq_true rfl)⟩) g hK (by decide) (by decide) (fx' := [(0, 11, a0_, .int y_13), (0, 8, a0_, .int x_10), (0, 5, a0_, .ref a_7), (0, 3, a0_, .ref a_6), (0, 0, a0_, .ref q0_), (0, 1, a0_, .ref q1_), (5, 1, q1_, .ref q2_), (9, 2, q2_, .int y1_), (8, 8, q0_, .int y2_)]) rfl (fun fr_17 H locs hp hMr_17 g => ?_)
    obtain ⟨x_18, h_19, hF_20⟩ := hp
    have hG_21 := eOK.frame hMr_17 go_.2.2.2.1 ma0_ ka0_ (by decide) (by decide) hG_16
    have g := g.more hF_20
    subst hQ
    exact W.vret hx hb hr (fun t ht hW => ⟨⟨_, rfl, Or.inl ⟨hG_21, b_2, x_18, h_19, y_13, b_14, x_10, h_11, (g.fcts [0, 1, 2, 9] rfl)⟩, q3_of g hK ht hW⟩, g.2.2.1.F ht⟩) g.2.2.1.2.2 dX0_openIndex_58
  · have fc_1 := nlt_f c_1
    have b_22 : bd 40 40 y0_ := leR fc_1 kb_40 by0_ (by decide)
    refine lv_aload_n hx hb dX0_openIndex_9 rfl (lv_at hl 0 rfl) ?_
    refine g_getk (C := RX0) (T := TX0) (N := 14) hx hb hts (mc_ inX0) hown hK g rfl 0 (by decide) rfl (hts _ (List.mem_cons_of_mem _ t_373)) (fun _ h9 => h9) 0 rfl dX0_openIndex_10 ?_
    refine lv_iconst (v := 4) hx hb dX0_openIndex_13 (by decide) ?_
    refine lv_aload_n hx hb dX0_openIndex_14 rfl (lv_at hl 0 rfl) ?_
    refine g_getk (C := RX0) (T := TX0) (N := 14) hx hb hts (mc_ inX0) hown hK g rfl 0 (by decide) rfl (hts _ (List.mem_cons_of_mem _ t_373)) (fun _ h9 => h9) 0 rfl dX0_openIndex_15 ?_
    have go_ := g
    refine g_calli (va_runV (As := []) (rest := [.int 4, .ref q0_]) ⟨hx, hb, hml, hown, hts⟩ (r_X8_place l dC dI L kd tys f0 s.heap.size g.2.2.2.1 q0_ mq0_ kq0_) (cwV 0 hts (gV_ t_1220 t_1111 t_1112 t_184 t_1113) rfl rfl rfl (by decide +kernel) ⟨(Nat.le_of_ble_eq_true rfl), (Nat.le_of_ble_eq_true rfl)⟩) (pre3V g hK mq0_ kq0_ (by decide) (q := (RX8, TX8, 10)) rfl) rfl rfl hl.1 rfl (lv_room (Nat.le_of_ble_eq_true rfl)) dX0_openIndex_18 ⟨(Nat.le_of_ble_eq_true rfl), (Nat.le_of_ble_eq_true rfl)⟩) g hK (by decide) (by decide) (fx' := [(0, 0, a0_, .ref q0_), (0, 1, a0_, .ref q1_), (5, 1, q1_, .ref q2_), (0, 11, a0_, .int y0_), (9, 2, q2_, .int y1_), (8, 8, q0_, .int y2_)]) rfl (fun r_23 fr_23 H locs hp hMr_23 g => ?_)
    have hG_24 := eOK.frame hMr_23 go_.2.2.2.1 ma0_ ka0_ (by decide) (by decide) hGea0_
    have kb_4 : bd 4 4 (4 : Int32) := ⟨by decide, by decide⟩
    have go_ := g
    refine g_callv (va_runV (As := [.int 4, .int r_23]) (rest := []) ⟨hx, hb, hml, hown, hts⟩ (r_X8_fail l dC dI L kd tys fr_23 H.size g.2.2.2.1 q0_ mq0_ kq0_ 4 (bd_sub kb_4 (by decide)) r_23 y2_ by2_ (g.fcts [5] rfl)) (cwV 2 hts (gV_ t_1215 t_1107 t_1108 t_184 t_1109) rfl rfl rfl (by decide +kernel) ⟨(Nat.le_of_ble_eq_true rfl), (Nat.le_of_ble_eq_true rfl)⟩) (pre3V g hK mq0_ kq0_ (by decide) (q := (RX8, TX8, 10)) rfl) rfl rfl hl.1 rfl (lv_room (Nat.le_of_ble_eq_true rfl)) dX0_openIndex_21 ⟨(Nat.le_of_ble_eq_true rfl), (Nat.le_of_ble_eq_true rfl)⟩) g hK (by decide) (by decide) (fx' := [(0, 0, a0_, .ref q0_), (0, 1, a0_, .ref q1_), (5, 1, q1_, .ref q2_), (0, 11, a0_, .int y0_), (9, 2, q2_, .int y1_)]) rfl (fun fr_25 H locs hp hMr_25 g => ?_)
    obtain ⟨x_26, h_27, hF_28⟩ := hp
    have hG_29 := eOK.frame hMr_25 go_.2.2.2.1 ma0_ ka0_ (by decide) (by decide) hG_24
    have g := g.more hF_28
    refine lv_aload_n hx hb dX0_openIndex_24 rfl (lv_at hl 0 rfl) ?_
    refine lv_iload_n hx hb dX0_openIndex_25 rfl (lv_at hl 1 rfl) ?_
    refine lv_iload_n hx hb dX0_openIndex_26 rfl (lv_at hl 2 rfl) ?_
    refine lv_aload_n hx hb dX0_openIndex_27 rfl (lv_at hl 0 rfl) ?_
    refine g_getk (C := RX0) (T := TX0) (N := 14) hx hb hts (mc_ inX0) hown hK g rfl 1 (by decide) rfl (hts _ (List.mem_cons_of_mem _ t_374)) (fun _ h9 => h9) 3 rfl dX0_openIndex_28 ?_
    refine g_getk (C := RX5) (T := TX5) (N := 9) hx hb hts (mc_ inX5) hown hK g rfl 1 (by decide) rfl (hts _ (List.mem_cons_of_mem _ t_332)) (fun _ h9 => h9) 4 rfl dX0_openIndex_31 ?_
    refine lv_iload_n hx hb dX0_openIndex_34 rfl (lv_at hl 3 rfl) ?_
    have go_ := g
    refine g_calli (va_runV (As := [.int x3_]) (rest := [.int x2_, .int x1_, .ref a0_]) ⟨hx, hb, hml, hown, hts⟩ (r_X9_spanOf l dC dI L kd tys fr_25 H.size g.2.2.2.1 q2_ mq2_ kq2_ x3_) (cwV 1 hts (gV_ t_1264 t_1265 t_1266 t_192 t_1267) rfl rfl rfl (by decide +kernel) ⟨(Nat.le_of_ble_eq_true rfl), (Nat.le_of_ble_eq_true rfl)⟩) (pre3V g hK mq2_ kq2_ (by decide) (q := (RX9, TX9, 13)) rfl) rfl rfl hl.1 rfl (lv_room (Nat.le_of_ble_eq_true rfl)) dX0_openIndex_35 ⟨(Nat.le_of_ble_eq_true rfl), (Nat.le_of_ble_eq_true rfl)⟩) g hK (by decide) (by decide) (fx' := [(8, 6, q0_, .int 1201), (8, 8, q0_, .int x_26), (0, 0, a0_, .ref q0_), (0, 1, a0_, .ref q1_), (5, 1, q1_, .ref q2_), (0, 11, a0_, .int y0_), (9, 2, q2_, .int y1_)]) rfl (fun r_30 fr_30 H locs hp hMr_30 g => ?_)
    obtain ⟨h_31, -⟩ := hp
    have hG_32 := eOK.frame hMr_30 go_.2.2.2.1 ma0_ ka0_ (by decide) (by decide) hG_29
    obtain ⟨a_33, ma_33, ka_33, g⟩ := g_factr (K := 110) g ma0_ ka0_ (by decide) 3 rfl
    obtain ⟨a_34, ma_34, ka_34, g⟩ := g_factr (K := 112) g ma0_ ka0_ (by decide) 5 rfl
    have go_ := g
    refine g_callv (va_runV (As := [.int x1_, .int x2_, .int r_30]) (rest := []) ⟨hx, hb, hml, hown, hts⟩ (r_X0_push_2 l dC dI L kd tys fr_30 H.size g.2.2.2.1 a0_ ma0_ ka0_ x1_ x2_ r_30 a_33 ma_33 ka_33 a_34 ma_34 ka_34 hG_32 (erel_bd bx1_ h_31 (by decide)) (g.fcts [1, 0] rfl)) (cwV 3 hts (gV_ t_1221 t_1223 t_19 t_190 t_1224) rfl rfl rfl (by decide +kernel) ⟨(Nat.le_of_ble_eq_true rfl), (Nat.le_of_ble_eq_true rfl)⟩) (pre3V g hK ma0_ ka0_ (by decide) (q := (RX0, TX0, 14)) rfl) rfl rfl hl.1 rfl (lv_room (Nat.le_of_ble_eq_true rfl)) dX0_openIndex_38 ⟨(Nat.le_of_ble_eq_true rfl), (Nat.le_of_ble_eq_true rfl)⟩) g hK (by decide) (by decide) (fx' := [(0, 5, a0_, .ref a_34), (0, 3, a0_, .ref a_33), (8, 6, q0_, .int 1201), (8, 8, q0_, .int x_26), (0, 0, a0_, .ref q0_), (0, 1, a0_, .ref q1_), (5, 1, q1_, .ref q2_), (0, 11, a0_, .int y0_), (9, 2, q2_, .int y1_)]) rfl (fun fr_35 H locs hp hMr_35 g => ?_)
    obtain ⟨hG_36, x_37, h_38, hF_39⟩ := hp
    have g := g.more hF_39
    refine lv_aload_n hx hb dX0_openIndex_41 rfl (lv_at hl 0 rfl) ?_
    refine lv_dup hx hb dX0_openIndex_42 rfl ?_
    refine g_getk (C := RX0) (T := TX0) (N := 14) hx hb hts (mc_ inX0) hown hK g rfl 11 (by decide) rfl (hts _ (List.mem_cons_of_mem _ t_384)) (fun _ h9 => h9) 8 rfl dX0_openIndex_43 ?_
    refine lv_iconst (v := 1) hx hb dX0_openIndex_46 (by decide) ?_
    have kb_1 : bd 1 1 (1 : Int32) := ⟨by decide, by decide⟩
    refine lv_iadd hx hb dX0_openIndex_47 ?_
    refine lv_topi (fun y_40 ey_40 => ?_)
    have ty_40 := add_bd ey_40 b_22 kb_1 (by decide)
    have b_41 : bd 41 41 y_40 := add_rg ty_40 b_22 kb_1 (by decide)
    have go_ := g
    refine g_put (C := RX0) (T := TX0) (N := 14) hx hb hts (mc_ inX0) tyX0 tyX0_ok nmX0 hown hK g ma0_ ka0_ (by decide) rfl 11 (by decide) (hts _ (List.mem_cons_of_mem _ t_384)) (fun _ h9 => h9) rfl rfl (okV_i (bd_sub b_41 (by decide))) rfl rfl (by decide) (Or.inr (Or.inl (by decide))) (fx' := [(0, 8, a0_, .int x_37), (0, 5, a0_, .ref a_34), (0, 3, a0_, .ref a_33), (8, 6, q0_, .int 1201), (8, 8, q0_, .int x_26), (0, 0, a0_, .ref q0_), (0, 1, a0_, .ref q1_), (5, 1, q1_, .ref q2_), (9, 2, q2_, .int y1_)]) rfl dX0_openIndex_48 (fun f H locs hM_42 g => ?_)
    have hG_43 := eOK.frame hM_42 go_.2.2.2.1 ma0_ ka0_ (by decide) (by decide) hG_36
    refine lv_aload_n hx hb dX0_openIndex_51 rfl (lv_at hl 0 rfl) ?_
    refine g_getk (C := RX0) (T := TX0) (N := 14) hx hb hts (mc_ inX0) hown hK g rfl 0 (by decide) rfl (hts _ (List.mem_cons_of_mem _ t_373)) (fun _ h9 => h9) 6 rfl dX0_openIndex_52 ?_
    have kb_1201 : bd 1201 1201 (1201 : Int32) := ⟨by decide, by decide⟩
    have go_ := g
    refine g_callv (va_runV (As := []) (rest := []) ⟨hx, hb, hml, hown, hts⟩ (r_X8_next_2 l dC dI L kd tys f H.size g.2.2.2.1 q0_ mq0_ kq0_ 1201 kb_1201 (g.fcts [4] rfl)) (cwV 0 hts (gV_ t_1225 t_1103 t_1104 t_184 t_1105) rfl rfl rfl (by decide +kernel) ⟨(Nat.le_of_ble_eq_true rfl), (Nat.le_of_ble_eq_true rfl)⟩) (pre3V g hK mq0_ kq0_ (by decide) (q := (RX8, TX8, 10)) rfl) rfl rfl hl.1 rfl (lv_room (Nat.le_of_ble_eq_true rfl)) dX0_openIndex_55 ⟨(Nat.le_of_ble_eq_true rfl), (Nat.le_of_ble_eq_true rfl)⟩) g hK (by decide) (by decide) (fx' := [(0, 11, a0_, .int y_40), (0, 8, a0_, .int x_37), (0, 5, a0_, .ref a_34), (0, 3, a0_, .ref a_33), (8, 6, q0_, .int 1201), (8, 8, q0_, .int x_26), (0, 0, a0_, .ref q0_), (0, 1, a0_, .ref q1_), (5, 1, q1_, .ref q2_), (9, 2, q2_, .int y1_)]) rfl (fun fr_44 H locs hp hMr_44 g => ?_)
    have hG_45 := eOK.frame hMr_44 go_.2.2.2.1 ma0_ ka0_ (by decide) (by decide) hG_43
    subst hQ
    exact W.vret hx hb hr (fun t ht hW => ⟨⟨_, rfl, Or.inr (⟨hG_45, b_22, y_40, b_41, x_37, h_38, x_26, h_27, (g.fcts [0, 1, 4, 5] rfl)⟩), q3_of g hK ht hW⟩, g.2.2.1.F ht⟩) g.2.2.1.2.2 dX0_openIndex_58
