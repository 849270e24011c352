set_option maxHeartbeats 4000000 in
set_option maxRecDepth 100000 in
theorem r_X0_openSign_2 (l : Launch) (dC : Nat → ClassId) (dI : Nat → Nat → Nat) (L : List Nat) (kd : Nat → Nat) (tys : List (ClassId × FieldType)) (f0 : Nat → va_E) (sz : Nat) (hWT : WT L kd tys f0) (a0_ : Nat) (ma0_ : a0_ ∈ L) (ka0_ : kd a0_ = 0) (x1_ : Int32) (q0_ : Nat) (mq0_ : q0_ ∈ L) (kq0_ : kd q0_ = 8) (q1_ : Nat) (mq1_ : q1_ ∈ L) (kq1_ : kd q1_ = 7) (y0_ : Int32) (by0_ : bd 0 0 y0_) (hGia0_ : eJx f0 a0_) (hGea0_ : eOK f0 a0_) (hfx : Fs L kd f0 [(0, 0, a0_, .ref q0_), (0, 2, a0_, .ref q1_), (8, 8, q0_, .int y0_)]) : Met l yX0_openSign (.code yX0_openSign cX0_openSign 3 none :: lw_g) ({ frames := 1, cells := 0, slots := 0, locals := 23 }) (va_Pc [.ref a0_, .int x1_] (P3 (dC, dI) L tys f0 sz)) (va_Qv (fun (f : Nat → va_E) => (eJx f a0_ ∧ eOK f a0_ ∧ ∃ z0_ : Int32, bd 1 1201 z0_ ∧ ∃ z1_ : Int32, bd (-2147483647) 40 z1_ ∧ ∃ z2_ : Int32, bd 1 300 z2_ ∧ Fs L kd f [(8, 6, q0_, .int z0_), (0, 11, a0_, .int z1_), (0, 8, a0_, .int z2_), (8, 8, q0_, .int y0_)]) ∨ (eOK f a0_ ∧ ∃ z0_ : Int32, bd 1 300 z0_ ∧ ∃ z2_ : Int32, bd 1 7 z2_ ∧ Fs L kd f [(0, 8, a0_, .int z0_), (8, 6, q0_, .int 1201), (8, 8, q0_, .int z2_)])) (Q3 (dC, dI) L kd tys [(0, 8), (0, 11), (7, 18), (8, 6), (8, 8), (8, 9)] [110, 111, 112, 113, 114] f0 sz) (pA L sz)) 0 0 (pA L sz) := by
  refine Met.ofW (cc := cX0_openSign) (maxL := 3) (ret := none) (by decide) rfl ?_
  intro p e s m args below meth c s₁ B hml hv
  obtain ⟨rfl, hsz, hP, hK, hD0⟩ := hv
  have hx := B.exec
  have hb := B.bytes
  have hr := B.returns
  have hts := atoms_spec (ws := (.code yX0_openSign cX0_openSign 3 none :: lw_g)) B.pre
  have hown : s.vm.findClass RX0 = some m.cls := findClass_of_methodNamed B.named
  have hlocks := B.notSynchronized
  subst hsz
  have g : G3 (dC, dI) L kd tys s f0 [(0, 8), (0, 11), (7, 18), (8, 6), (8, 8), (8, 9)] [110, 111, 112, 113, 114] f0 s.heap [] [(0, 0, a0_, .ref q0_), (0, 2, a0_, .ref q1_), (8, 8, q0_, .int y0_)] := G3.start hP hD0 hWT hfx
  have hl := lv_entry ([.ref a0_, .int x1_]) (n := 3) (Nat.le_of_ble_eq_true rfl)
  rw [lg_entry_eq]
  generalize (lg_sl ([.ref a0_, .int x1_]) ++ List.replicate (3 - (lg_sl ([.ref a0_, .int x1_])).length) Slot.unset).toArray = ls at hl ⊢
  have hl : lv_has ls 3 [(0, .ref a0_), (1, .int x1_)] := hl
  refine W_q (fun Q hQ => ?_)
  refine lv_aload_n hx hb dX0_openSign_0 rfl (lv_at hl 0 rfl) ?_
  refine g_geti (C := RX0) (T := TX0) (N := 14) hx hb hts (mc_ inX0) hown hK g ma0_ ka0_ (by decide) rfl 11 (by decide) rfl (hts _ (List.mem_cons_of_mem _ t_384)) (fun _ h9 => h9) rfl dX0_openSign_1 (fun x_1 bx_1 g => ?_)
  refine lv_bipush (v := 40) hx hb dX0_openSign_4 (by decide) ?_
  have kb_40 : bd 40 40 (40 : Int32) := ⟨by decide, by decide⟩
  refine lv_icmp_lt (tgt := 24) hx hb dX0_openSign_6 (by decide) (fun c_2 => ?_) (fun c_2 => ?_)
  · have fc_2 := lt_f c_2
    have b_3 : bd (-2147483648) 39 x_1 := ltL fc_2 (bdT x_1) kb_40 (by decide)
    refine lv_iload_n hx hb dX0_openSign_24 rfl (lv_at hl 1 rfl) ?_
    refine lv_bipush (v := 45) hx hb dX0_openSign_25 (by decide) ?_
    have kb_45 : bd 45 45 (45 : Int32) := ⟨by decide, by decide⟩
    refine lv_icmp_ne (tgt := 35) hx hb dX0_openSign_27 (by decide) (fun c_4 => ?_) (fun c_4 => ?_)
    · have fc_4 := neq_f c_4
      refine lv_bipush (v := 7) hx hb dX0_openSign_35 (by decide) ?_
      refine lv_istore_n (lv' := [(2, .int 7), (0, .ref a0_), (1, .int x1_)]) hx hb dX0_openSign_37 rfl hl (by decide) rfl (fun ls hl => ?_)
      refine lv_aload_n hx hb dX0_openSign_38 rfl (lv_at hl 1 rfl) ?_
      refine lv_iload_n hx hb dX0_openSign_39 rfl (lv_at hl 2 rfl) ?_
      refine lv_bipush (v := 40) hx hb dX0_openSign_40 (by decide) ?_
      refine lv_icmp_ne (tgt := 49) hx hb dX0_openSign_42 (by decide) (fun c_5 => ?_) (fun c_5 => ?_)
      · have fc_5 := neq_f c_5
        refine lv_iload_n hx hb dX0_openSign_49 rfl (lv_at hl 0 rfl) ?_
        refine lv_aload_n hx hb dX0_openSign_50 rfl (lv_at hl 1 rfl) ?_
        refine g_getk (C := RX0) (T := TX0) (N := 14) hx hb hts (mc_ inX0) hown hK g rfl 0 (by decide) rfl (hts _ (List.mem_cons_of_mem _ t_373)) (fun _ h9 => h9) 1 rfl dX0_openSign_51 ?_
        have go_ := g
        refine g_calli (va_runV (As := []) (rest := [.int 7, .ref a0_]) ⟨hx, hb, hml, hown, hts⟩ (r_X8_place l dC dI L kd tys f0 s.heap.size g.2.2.2.1 q0_ mq0_ kq0_) (cwV 0 hts (gV_ t_1220 t_1111 t_1112 t_184 t_1113) rfl rfl rfl (by decide +kernel) ⟨(Nat.le_of_ble_eq_true rfl), (Nat.le_of_ble_eq_true rfl)⟩) (pre3V g hK mq0_ kq0_ (by decide) (q := (RX8, TX8, 10)) rfl) rfl rfl hl.1 rfl (lv_room (Nat.le_of_ble_eq_true rfl)) dX0_openSign_54 ⟨(Nat.le_of_ble_eq_true rfl), (Nat.le_of_ble_eq_true rfl)⟩) g hK (by decide) (by decide) (fx' := [(0, 11, a0_, .int x_1), (0, 0, a0_, .ref q0_), (0, 2, a0_, .ref q1_), (8, 8, q0_, .int y0_)]) rfl (fun r_6 fr_6 H locs hp hMr_6 g => ?_)
        have hG_7 := eJx.frame hMr_6 go_.2.2.2.1 ma0_ ka0_ (by decide) (by decide) hGia0_
        have hG_8 := eOK.frame hMr_6 go_.2.2.2.1 ma0_ ka0_ (by decide) (by decide) hGea0_
        refine lv_iconst (v := 0) hx hb dX0_openSign_57 (by decide) ?_
        obtain ⟨a_9, ma_9, ka_9, g⟩ := g_factr (K := 110) g ma0_ ka0_ (by decide) 3 rfl
        obtain ⟨a_10, ma_10, ka_10, g⟩ := g_factr (K := 112) g ma0_ ka0_ (by decide) 5 rfl
        have kb_7 : bd 7 7 (7 : Int32) := ⟨by decide, by decide⟩
        have kb_0 : bd 0 0 (0 : Int32) := ⟨by decide, by decide⟩
        have go_ := g
        refine g_callv (va_runV (As := [.int 7, .int r_6, .int 0]) (rest := []) ⟨hx, hb, hml, hown, hts⟩ (r_X0_push_3 l dC dI L kd tys fr_6 H.size g.2.2.2.1 a0_ ma0_ ka0_ 7 r_6 0 q1_ mq1_ kq1_ a_9 ma_9 ka_9 a_10 ma_10 ka_10 hG_7 hG_8 (erel_bd kb_7 kb_0 (by decide)) ⟨(fun h9 => (by exfalso; have h9_0 := b_3; unfold bd at h9_0; have h9_1 := by0_; unfold bd at h9_1; have h8_0 := kb_0; unfold bd at h8_0; have h8_1 := kb_40; unfold bd at h8_1; have h8_2 := kb_45; unfold bd at h8_2; have h8_3 := kb_7; unfold bd at h8_3; omega)), (fun h9 => ⟨(by have h9_0 := b_3; unfold bd at h9_0; have h9_1 := by0_; unfold bd at h9_1; have h8_0 := kb_0; unfold bd at h8_0; have h8_1 := kb_40; unfold bd at h8_1; have h8_2 := kb_45; unfold bd at h8_2; have h8_3 := kb_7; unfold bd at h8_3; omega), (by have h9_0 := b_3; unfold bd at h9_0; have h9_1 := by0_; unfold bd at h9_1; have h8_0 := kb_0; unfold bd at h8_0; have h8_1 := kb_40; unfold bd at h8_1; have h8_2 := kb_45; unfold bd at h8_2; have h8_3 := kb_7; unfold bd at h8_3; omega)⟩)⟩ (g.fcts [4, 1, 0] rfl)) (cwV 3 hts (gV_ t_1221 t_1223 t_19 t_190 t_1224) rfl rfl rfl (by decide +kernel) ⟨(Nat.le_of_ble_eq_true rfl), (Nat.le_of_ble_eq_true rfl)⟩) (pre3V g hK ma0_ ka0_ (by decide) (q := (RX0, TX0, 14)) rfl) rfl rfl hl.1 rfl (lv_room (Nat.le_of_ble_eq_true rfl)) dX0_openSign_58 ⟨(Nat.le_of_ble_eq_true rfl), (Nat.le_of_ble_eq_true rfl)⟩) g hK (by decide) (by decide) (fx' := [(0, 5, a0_, .ref a_10), (0, 3, a0_, .ref a_9), (0, 11, a0_, .int x_1), (0, 0, a0_, .ref q0_), (0, 2, a0_, .ref q1_), (8, 8, q0_, .int y0_)]) rfl (fun fr_11 H locs hp hMr_11 g => ?_)
        obtain ⟨hG_12, hG_13, x_14, h_15, hF_16⟩ := hp
        have g := g.more hF_16
        refine lv_aload_n hx hb dX0_openSign_61 rfl (lv_at hl 1 rfl) ?_
        refine g_getk (C := RX0) (T := TX0) (N := 14) hx hb hts (mc_ inX0) hown hK g rfl 2 (by decide) rfl (hts _ (List.mem_cons_of_mem _ t_375)) (fun _ h9 => h9) 5 rfl dX0_openSign_62 ?_
        refine lv_dup hx hb dX0_openSign_65 rfl ?_
        refine g_geti (C := RX7) (T := TX7) (N := 19) hx hb hts (mc_ inX7) hown hK g mq1_ kq1_ (by decide) rfl 18 (by decide) rfl (hts _ (List.mem_cons_of_mem _ t_681)) (fun _ h9 => h9) rfl dX0_openSign_66 (fun x_17 bx_17 g => ?_)
        refine lv_iload_n hx hb dX0_openSign_69 rfl (lv_at hl 2 rfl) ?_
        refine lv_bipush (v := 40) hx hb dX0_openSign_70 (by decide) ?_
        refine lv_icmp_ne (tgt := 79) hx hb dX0_openSign_72 (by decide) (fun c_18 => ?_) (fun c_18 => ?_)
        · have fc_18 := neq_f c_18
          refine lv_iconst (v := 1) hx hb dX0_openSign_79 (by decide) ?_
          have kb_1 : bd 1 1 (1 : Int32) := ⟨by decide, by decide⟩
          refine lv_iadd hx hb dX0_openSign_80 ?_
          refine lv_topi (fun y_19 ey_19 => ?_)
          have go_ := g
          refine g_put (C := RX7) (T := TX7) (N := 19) hx hb hts (mc_ inX7) tyX7 tyX7_ok nmX7 hown hK g mq1_ kq1_ (by decide) rfl 18 (by decide) (hts _ (List.mem_cons_of_mem _ t_681)) (fun _ h9 => h9) rfl rfl (okV_i (bdT y_19)) rfl rfl (by decide) (Or.inr (Or.inl (by decide))) (fx' := [(0, 8, a0_, .int x_14), (0, 5, a0_, .ref a_10), (0, 3, a0_, .ref a_9), (0, 11, a0_, .int x_1), (0, 0, a0_, .ref q0_), (0, 2, a0_, .ref q1_), (8, 8, q0_, .int y0_)]) rfl dX0_openSign_81 (fun f H locs hM_20 g => ?_)
          have hG_21 := eJx.frame hM_20 go_.2.2.2.1 ma0_ ka0_ (by decide) (by decide) hG_12
          have hG_22 := eOK.frame hM_20 go_.2.2.2.1 ma0_ ka0_ (by decide) (by decide) hG_13
          refine lv_aload_n hx hb dX0_openSign_84 rfl (lv_at hl 1 rfl) ?_
          refine lv_dup hx hb dX0_openSign_85 rfl ?_
          refine g_getk (C := RX0) (T := TX0) (N := 14) hx hb hts (mc_ inX0) hown hK g rfl 11 (by decide) rfl (hts _ (List.mem_cons_of_mem _ t_384)) (fun _ h9 => h9) 4 rfl dX0_openSign_86 ?_
          refine lv_iconst (v := 1) hx hb dX0_openSign_89 (by decide) ?_
          refine lv_iadd hx hb dX0_openSign_90 ?_
          refine lv_topi (fun y_23 ey_23 => ?_)
          have ty_23 := add_bd ey_23 b_3 kb_1 (by decide)
          have b_24 : bd (-2147483647) 40 y_23 := add_rg ty_23 b_3 kb_1 (by decide)
          have go_ := g
          refine g_put (C := RX0) (T := TX0) (N := 14) hx hb hts (mc_ inX0) tyX0 tyX0_ok nmX0 hown hK g ma0_ ka0_ (by decide) rfl 11 (by decide) (hts _ (List.mem_cons_of_mem _ t_384)) (fun _ h9 => h9) rfl rfl (okV_i (bd_sub b_24 (by decide))) rfl rfl (by decide) (Or.inr (Or.inl (by decide))) (fx' := [(7, 18, q1_, .int y_19), (0, 8, a0_, .int x_14), (0, 5, a0_, .ref a_10), (0, 3, a0_, .ref a_9), (0, 0, a0_, .ref q0_), (0, 2, a0_, .ref q1_), (8, 8, q0_, .int y0_)]) rfl dX0_openSign_91 (fun f H locs hM_25 g => ?_)
          have hG_26 := eJx.frame hM_25 go_.2.2.2.1 ma0_ ka0_ (by decide) (by decide) hG_21
          have hG_27 := eOK.frame hM_25 go_.2.2.2.1 ma0_ ka0_ (by decide) (by decide) hG_22
          refine lv_aload_n hx hb dX0_openSign_94 rfl (lv_at hl 1 rfl) ?_
          refine g_getk (C := RX0) (T := TX0) (N := 14) hx hb hts (mc_ inX0) hown hK g rfl 0 (by decide) rfl (hts _ (List.mem_cons_of_mem _ t_373)) (fun _ h9 => h9) 5 rfl dX0_openSign_95 ?_
          have go_ := g
          refine g_callv (va_runV (As := []) (rest := []) ⟨hx, hb, hml, hown, hts⟩ (r_X8_next l dC dI L kd tys f H.size g.2.2.2.1 q0_ mq0_ kq0_) (cwV 0 hts (gV_ t_1225 t_1103 t_1104 t_184 t_1105) rfl rfl rfl (by decide +kernel) ⟨(Nat.le_of_ble_eq_true rfl), (Nat.le_of_ble_eq_true rfl)⟩) (pre3V g hK mq0_ kq0_ (by decide) (q := (RX8, TX8, 10)) rfl) rfl rfl hl.1 rfl (lv_room (Nat.le_of_ble_eq_true rfl)) dX0_openSign_98 ⟨(Nat.le_of_ble_eq_true rfl), (Nat.le_of_ble_eq_true rfl)⟩) g hK (by decide) (by decide) (fx' := [(0, 11, a0_, .int y_23), (7, 18, q1_, .int y_19), (0, 8, a0_, .int x_14), (0, 5, a0_, .ref a_10), (0, 3, a0_, .ref a_9), (0, 0, a0_, .ref q0_), (0, 2, a0_, .ref q1_), (8, 8, q0_, .int y0_)]) rfl (fun fr_28 H locs hp hMr_28 g => ?_)
          obtain ⟨x_29, h_30, hF_31⟩ := hp
          have hG_32 := eJx.frame hMr_28 go_.2.2.2.1 ma0_ ka0_ (by decide) (by decide) hG_26
          have hG_33 := eOK.frame hMr_28 go_.2.2.2.1 ma0_ ka0_ (by decide) (by decide) hG_27
          have g := g.more hF_31
          subst hQ
          exact W.vret hx hb hr (fun t ht hW => ⟨⟨_, rfl, Or.inl ⟨hG_32, hG_33, x_29, h_30, y_23, b_24, x_14, h_15, (g.fcts [0, 1, 3, 8] rfl)⟩, q3_of g hK ht hW⟩, g.2.2.1.F ht⟩) g.2.2.1.2.2 dX0_openSign_101
        · have fc_18 := eq_f c_18
          exact absurd fc_18 fc_5
      · have fc_5 := eq_f c_5
        have b_34 : bd 40 40 x1_ := eqX fc_5 (bdT x1_) kb_40 (by decide)
        refine lv_iconst (v := 1) hx hb dX0_openSign_45 (by decide) ?_
        refine lv_goto (tgt := 50) hx hb dX0_openSign_46 (by decide) ?_
        refine lv_aload_n hx hb dX0_openSign_50 rfl (lv_at hl 1 rfl) ?_
        refine g_getk (C := RX0) (T := TX0) (N := 14) hx hb hts (mc_ inX0) hown hK g rfl 0 (by decide) rfl (hts _ (List.mem_cons_of_mem _ t_373)) (fun _ h9 => h9) 1 rfl dX0_openSign_51 ?_
        have go_ := g
        refine g_calli (va_runV (As := []) (rest := [.int 1, .ref a0_]) ⟨hx, hb, hml, hown, hts⟩ (r_X8_place l dC dI L kd tys f0 s.heap.size g.2.2.2.1 q0_ mq0_ kq0_) (cwV 0 hts (gV_ t_1220 t_1111 t_1112 t_184 t_1113) rfl rfl rfl (by decide +kernel) ⟨(Nat.le_of_ble_eq_true rfl), (Nat.le_of_ble_eq_true rfl)⟩) (pre3V g hK mq0_ kq0_ (by decide) (q := (RX8, TX8, 10)) rfl) rfl rfl hl.1 rfl (lv_room (Nat.le_of_ble_eq_true rfl)) dX0_openSign_54 ⟨(Nat.le_of_ble_eq_true rfl), (Nat.le_of_ble_eq_true rfl)⟩) g hK (by decide) (by decide) (fx' := [(0, 11, a0_, .int x_1), (0, 0, a0_, .ref q0_), (0, 2, a0_, .ref q1_), (8, 8, q0_, .int y0_)]) rfl (fun r_35 fr_35 H locs hp hMr_35 g => ?_)
        have hG_36 := eJx.frame hMr_35 go_.2.2.2.1 ma0_ ka0_ (by decide) (by decide) hGia0_
        have hG_37 := eOK.frame hMr_35 go_.2.2.2.1 ma0_ ka0_ (by decide) (by decide) hGea0_
        refine lv_iconst (v := 0) hx hb dX0_openSign_57 (by decide) ?_
        obtain ⟨a_38, ma_38, ka_38, g⟩ := g_factr (K := 110) g ma0_ ka0_ (by decide) 3 rfl
        obtain ⟨a_39, ma_39, ka_39, g⟩ := g_factr (K := 112) g ma0_ ka0_ (by decide) 5 rfl
        have kb_1 : bd 1 1 (1 : Int32) := ⟨by decide, by decide⟩
        have kb_0 : bd 0 0 (0 : Int32) := ⟨by decide, by decide⟩
        have go_ := g
        refine g_callv (va_runV (As := [.int 1, .int r_35, .int 0]) (rest := []) ⟨hx, hb, hml, hown, hts⟩ (r_X0_push_3 l dC dI L kd tys fr_35 H.size g.2.2.2.1 a0_ ma0_ ka0_ 1 r_35 0 q1_ mq1_ kq1_ a_38 ma_38 ka_38 a_39 ma_39 ka_39 hG_36 hG_37 (erel_bd kb_1 kb_0 (by decide)) ⟨(fun h9 => (by exfalso; have h9_0 := b_34; unfold bd at h9_0; have h9_1 := b_3; unfold bd at h9_1; have h9_2 := by0_; unfold bd at h9_2; have h8_0 := kb_0; unfold bd at h8_0; have h8_1 := kb_1; unfold bd at h8_1; have h8_2 := kb_40; unfold bd at h8_2; have h8_3 := kb_45; unfold bd at h8_3; omega)), (fun h9 => ⟨(by have h9_0 := b_34; unfold bd at h9_0; have h9_1 := b_3; unfold bd at h9_1; have h9_2 := by0_; unfold bd at h9_2; have h8_0 := kb_0; unfold bd at h8_0; have h8_1 := kb_1; unfold bd at h8_1; have h8_2 := kb_40; unfold bd at h8_2; have h8_3 := kb_45; unfold bd at h8_3; omega), (by have h9_0 := b_34; unfold bd at h9_0; have h9_1 := b_3; unfold bd at h9_1; have h9_2 := by0_; unfold bd at h9_2; have h8_0 := kb_0; unfold bd at h8_0; have h8_1 := kb_1; unfold bd at h8_1; have h8_2 := kb_40; unfold bd at h8_2; have h8_3 := kb_45; unfold bd at h8_3; omega)⟩)⟩ (g.fcts [4, 1, 0] rfl)) (cwV 3 hts (gV_ t_1221 t_1223 t_19 t_190 t_1224) rfl rfl rfl (by decide +kernel) ⟨(Nat.le_of_ble_eq_true rfl), (Nat.le_of_ble_eq_true rfl)⟩) (pre3V g hK ma0_ ka0_ (by decide) (q := (RX0, TX0, 14)) rfl) rfl rfl hl.1 rfl (lv_room (Nat.le_of_ble_eq_true rfl)) dX0_openSign_58 ⟨(Nat.le_of_ble_eq_true rfl), (Nat.le_of_ble_eq_true rfl)⟩) g hK (by decide) (by decide) (fx' := [(0, 5, a0_, .ref a_39), (0, 3, a0_, .ref a_38), (0, 11, a0_, .int x_1), (0, 0, a0_, .ref q0_), (0, 2, a0_, .ref q1_), (8, 8, q0_, .int y0_)]) rfl (fun fr_40 H locs hp hMr_40 g => ?_)
        obtain ⟨hG_41, hG_42, x_43, h_44, hF_45⟩ := hp
        have g := g.more hF_45
        refine lv_aload_n hx hb dX0_openSign_61 rfl (lv_at hl 1 rfl) ?_
        refine g_getk (C := RX0) (T := TX0) (N := 14) hx hb hts (mc_ inX0) hown hK g rfl 2 (by decide) rfl (hts _ (List.mem_cons_of_mem _ t_375)) (fun _ h9 => h9) 5 rfl dX0_openSign_62 ?_
        refine lv_dup hx hb dX0_openSign_65 rfl ?_
        refine g_geti (C := RX7) (T := TX7) (N := 19) hx hb hts (mc_ inX7) hown hK g mq1_ kq1_ (by decide) rfl 18 (by decide) rfl (hts _ (List.mem_cons_of_mem _ t_681)) (fun _ h9 => h9) rfl dX0_openSign_66 (fun x_46 bx_46 g => ?_)
        refine lv_iload_n hx hb dX0_openSign_69 rfl (lv_at hl 2 rfl) ?_
        refine lv_bipush (v := 40) hx hb dX0_openSign_70 (by decide) ?_
        refine lv_icmp_ne (tgt := 79) hx hb dX0_openSign_72 (by decide) (fun c_47 => ?_) (fun c_47 => ?_)
        · have fc_47 := neq_f c_47
          have b_48 : bd 41 39 x1_ := neX fc_47 b_34 kb_40 (by decide)
          exact bd_no b_48 (by decide)
        · have fc_47 := eq_f c_47
          refine lv_iconst (v := 0) hx hb dX0_openSign_75 (by decide) ?_
          refine lv_goto (tgt := 80) hx hb dX0_openSign_76 (by decide) ?_
          refine lv_iadd hx hb dX0_openSign_80 ?_
          refine lv_topi (fun y_49 ey_49 => ?_)
          have ty_49 := add_bd ey_49 (bdT x_46) kb_0 (by decide)
          have b_50 : bd (-2147483648) 2147483647 y_49 := add_rg ty_49 (bdT x_46) kb_0 (by decide)
          have go_ := g
          refine g_put (C := RX7) (T := TX7) (N := 19) hx hb hts (mc_ inX7) tyX7 tyX7_ok nmX7 hown hK g mq1_ kq1_ (by decide) rfl 18 (by decide) (hts _ (List.mem_cons_of_mem _ t_681)) (fun _ h9 => h9) rfl rfl (okV_i b_50) rfl rfl (by decide) (Or.inr (Or.inl (by decide))) (fx' := [(0, 8, a0_, .int x_43), (0, 5, a0_, .ref a_39), (0, 3, a0_, .ref a_38), (0, 11, a0_, .int x_1), (0, 0, a0_, .ref q0_), (0, 2, a0_, .ref q1_), (8, 8, q0_, .int y0_)]) rfl dX0_openSign_81 (fun f H locs hM_51 g => ?_)
          have hG_52 := eJx.frame hM_51 go_.2.2.2.1 ma0_ ka0_ (by decide) (by decide) hG_41
          have hG_53 := eOK.frame hM_51 go_.2.2.2.1 ma0_ ka0_ (by decide) (by decide) hG_42
          refine lv_aload_n hx hb dX0_openSign_84 rfl (lv_at hl 1 rfl) ?_
          refine lv_dup hx hb dX0_openSign_85 rfl ?_
          refine g_getk (C := RX0) (T := TX0) (N := 14) hx hb hts (mc_ inX0) hown hK g rfl 11 (by decide) rfl (hts _ (List.mem_cons_of_mem _ t_384)) (fun _ h9 => h9) 4 rfl dX0_openSign_86 ?_
          refine lv_iconst (v := 1) hx hb dX0_openSign_89 (by decide) ?_
          refine lv_iadd hx hb dX0_openSign_90 ?_
          refine lv_topi (fun y_54 ey_54 => ?_)
          have ty_54 := add_bd ey_54 b_3 kb_1 (by decide)
          have b_55 : bd (-2147483647) 40 y_54 := add_rg ty_54 b_3 kb_1 (by decide)
          have go_ := g
          refine g_put (C := RX0) (T := TX0) (N := 14) hx hb hts (mc_ inX0) tyX0 tyX0_ok nmX0 hown hK g ma0_ ka0_ (by decide) rfl 11 (by decide) (hts _ (List.mem_cons_of_mem _ t_384)) (fun _ h9 => h9) rfl rfl (okV_i (bd_sub b_55 (by decide))) rfl rfl (by decide) (Or.inr (Or.inl (by decide))) (fx' := [(7, 18, q1_, .int y_49), (0, 8, a0_, .int x_43), (0, 5, a0_, .ref a_39), (0, 3, a0_, .ref a_38), (0, 0, a0_, .ref q0_), (0, 2, a0_, .ref q1_), (8, 8, q0_, .int y0_)]) rfl dX0_openSign_91 (fun f H locs hM_56 g => ?_)
          have hG_57 := eJx.frame hM_56 go_.2.2.2.1 ma0_ ka0_ (by decide) (by decide) hG_52
          have hG_58 := eOK.frame hM_56 go_.2.2.2.1 ma0_ ka0_ (by decide) (by decide) hG_53
          refine lv_aload_n hx hb dX0_openSign_94 rfl (lv_at hl 1 rfl) ?_
          refine g_getk (C := RX0) (T := TX0) (N := 14) hx hb hts (mc_ inX0) hown hK g rfl 0 (by decide) rfl (hts _ (List.mem_cons_of_mem _ t_373)) (fun _ h9 => h9) 5 rfl dX0_openSign_95 ?_
          have go_ := g
          refine g_callv (va_runV (As := []) (rest := []) ⟨hx, hb, hml, hown, hts⟩ (r_X8_next l dC dI L kd tys f H.size g.2.2.2.1 q0_ mq0_ kq0_) (cwV 0 hts (gV_ t_1225 t_1103 t_1104 t_184 t_1105) rfl rfl rfl (by decide +kernel) ⟨(Nat.le_of_ble_eq_true rfl), (Nat.le_of_ble_eq_true rfl)⟩) (pre3V g hK mq0_ kq0_ (by decide) (q := (RX8, TX8, 10)) rfl) rfl rfl hl.1 rfl (lv_room (Nat.le_of_ble_eq_true rfl)) dX0_openSign_98 ⟨(Nat.le_of_ble_eq_true rfl), (Nat.le_of_ble_eq_true rfl)⟩) g hK (by decide) (by decide) (fx' := [(0, 11, a0_, .int y_54), (7, 18, q1_, .int y_49), (0, 8, a0_, .int x_43), (0, 5, a0_, .ref a_39), (0, 3, a0_, .ref a_38), (0, 0, a0_, .ref q0_), (0, 2, a0_, .ref q1_), (8, 8, q0_, .int y0_)]) rfl (fun fr_59 H locs hp hMr_59 g => ?_)
          obtain ⟨x_60, h_61, hF_62⟩ := hp
          have hG_63 := eJx.frame hMr_59 go_.2.2.2.1 ma0_ ka0_ (by decide) (by decide) hG_57
          have hG_64 := eOK.frame hMr_59 go_.2.2.2.1 ma0_ ka0_ (by decide) (by decide) hG_58
          have g := g.more hF_62
          subst hQ
          exact W.vret hx hb hr (fun t ht hW => ⟨⟨_, rfl, Or.inl ⟨hG_63, hG_64, x_60, h_61, y_54, b_55, x_43, h_44, (g.fcts [0, 1, 3, 8] rfl)⟩, q3_of g hK ht hW⟩, g.2.2.1.F ht⟩) g.2.2.1.2.2 dX0_openSign_101
    · have fc_4 := eq_f c_4
      have b_65 : bd 45 45 x1_ := eqX fc_4 (bdT x1_) kb_45 (by decide)
      refine lv_bipush (v := 6) hx hb dX0_openSign_30 (by decide) ?_
      refine lv_goto (tgt := 37) hx hb dX0_openSign_32 (by decide) ?_
      refine lv_istore_n (lv' := [(2, .int 6), (0, .ref a0_), (1, .int x1_)]) hx hb dX0_openSign_37 rfl hl (by decide) rfl (fun ls hl => ?_)
      refine lv_aload_n hx hb dX0_openSign_38 rfl (lv_at hl 1 rfl) ?_
      refine lv_iload_n hx hb dX0_openSign_39 rfl (lv_at hl 2 rfl) ?_
      refine lv_bipush (v := 40) hx hb dX0_openSign_40 (by decide) ?_
      refine lv_icmp_ne (tgt := 49) hx hb dX0_openSign_42 (by decide) (fun c_66 => ?_) (fun c_66 => ?_)
      · have fc_66 := neq_f c_66
        refine lv_iload_n hx hb dX0_openSign_49 rfl (lv_at hl 0 rfl) ?_
        refine lv_aload_n hx hb dX0_openSign_50 rfl (lv_at hl 1 rfl) ?_
        refine g_getk (C := RX0) (T := TX0) (N := 14) hx hb hts (mc_ inX0) hown hK g rfl 0 (by decide) rfl (hts _ (List.mem_cons_of_mem _ t_373)) (fun _ h9 => h9) 1 rfl dX0_openSign_51 ?_
        have go_ := g
        refine g_calli (va_runV (As := []) (rest := [.int 6, .ref a0_]) ⟨hx, hb, hml, hown, hts⟩ (r_X8_place l dC dI L kd tys f0 s.heap.size g.2.2.2.1 q0_ mq0_ kq0_) (cwV 0 hts (gV_ t_1220 t_1111 t_1112 t_184 t_1113) rfl rfl rfl (by decide +kernel) ⟨(Nat.le_of_ble_eq_true rfl), (Nat.le_of_ble_eq_true rfl)⟩) (pre3V g hK mq0_ kq0_ (by decide) (q := (RX8, TX8, 10)) rfl) rfl rfl hl.1 rfl (lv_room (Nat.le_of_ble_eq_true rfl)) dX0_openSign_54 ⟨(Nat.le_of_ble_eq_true rfl), (Nat.le_of_ble_eq_true rfl)⟩) g hK (by decide) (by decide) (fx' := [(0, 11, a0_, .int x_1), (0, 0, a0_, .ref q0_), (0, 2, a0_, .ref q1_), (8, 8, q0_, .int y0_)]) rfl (fun r_67 fr_67 H locs hp hMr_67 g => ?_)
        have hG_68 := eJx.frame hMr_67 go_.2.2.2.1 ma0_ ka0_ (by decide) (by decide) hGia0_
        have hG_69 := eOK.frame hMr_67 go_.2.2.2.1 ma0_ ka0_ (by decide) (by decide) hGea0_
        refine lv_iconst (v := 0) hx hb dX0_openSign_57 (by decide) ?_
        obtain ⟨a_70, ma_70, ka_70, g⟩ := g_factr (K := 110) g ma0_ ka0_ (by decide) 3 rfl
        obtain ⟨a_71, ma_71, ka_71, g⟩ := g_factr (K := 112) g ma0_ ka0_ (by decide) 5 rfl
        have kb_6 : bd 6 6 (6 : Int32) := ⟨by decide, by decide⟩
        have kb_0 : bd 0 0 (0 : Int32) := ⟨by decide, by decide⟩
        have go_ := g
        refine g_callv (va_runV (As := [.int 6, .int r_67, .int 0]) (rest := []) ⟨hx, hb, hml, hown, hts⟩ (r_X0_push_3 l dC dI L kd tys fr_67 H.size g.2.2.2.1 a0_ ma0_ ka0_ 6 r_67 0 q1_ mq1_ kq1_ a_70 ma_70 ka_70 a_71 ma_71 ka_71 hG_68 hG_69 (erel_bd kb_6 kb_0 (by decide)) ⟨(fun h9 => (by exfalso; have h9_0 := b_65; unfold bd at h9_0; have h9_1 := b_3; unfold bd at h9_1; have h9_2 := by0_; unfold bd at h9_2; have h8_0 := kb_0; unfold bd at h8_0; have h8_1 := kb_40; unfold bd at h8_1; have h8_2 := kb_45; unfold bd at h8_2; have h8_3 := kb_6; unfold bd at h8_3; omega)), (fun h9 => ⟨(by have h9_0 := b_65; unfold bd at h9_0; have h9_1 := b_3; unfold bd at h9_1; have h9_2 := by0_; unfold bd at h9_2; have h8_0 := kb_0; unfold bd at h8_0; have h8_1 := kb_40; unfold bd at h8_1; have h8_2 := kb_45; unfold bd at h8_2; have h8_3 := kb_6; unfold bd at h8_3; omega), (by have h9_0 := b_65; unfold bd at h9_0; have h9_1 := b_3; unfold bd at h9_1; have h9_2 := by0_; unfold bd at h9_2; have h8_0 := kb_0; unfold bd at h8_0; have h8_1 := kb_40; unfold bd at h8_1; have h8_2 := kb_45; unfold bd at h8_2; have h8_3 := kb_6; unfold bd at h8_3; omega)⟩)⟩ (g.fcts [4, 1, 0] rfl)) (cwV 3 hts (gV_ t_1221 t_1223 t_19 t_190 t_1224) rfl rfl rfl (by decide +kernel) ⟨(Nat.le_of_ble_eq_true rfl), (Nat.le_of_ble_eq_true rfl)⟩) (pre3V g hK ma0_ ka0_ (by decide) (q := (RX0, TX0, 14)) rfl) rfl rfl hl.1 rfl (lv_room (Nat.le_of_ble_eq_true rfl)) dX0_openSign_58 ⟨(Nat.le_of_ble_eq_true rfl), (Nat.le_of_ble_eq_true rfl)⟩) g hK (by decide) (by decide) (fx' := [(0, 5, a0_, .ref a_71), (0, 3, a0_, .ref a_70), (0, 11, a0_, .int x_1), (0, 0, a0_, .ref q0_), (0, 2, a0_, .ref q1_), (8, 8, q0_, .int y0_)]) rfl (fun fr_72 H locs hp hMr_72 g => ?_)
        obtain ⟨hG_73, hG_74, x_75, h_76, hF_77⟩ := hp
        have g := g.more hF_77
        refine lv_aload_n hx hb dX0_openSign_61 rfl (lv_at hl 1 rfl) ?_
        refine g_getk (C := RX0) (T := TX0) (N := 14) hx hb hts (mc_ inX0) hown hK g rfl 2 (by decide) rfl (hts _ (List.mem_cons_of_mem _ t_375)) (fun _ h9 => h9) 5 rfl dX0_openSign_62 ?_
        refine lv_dup hx hb dX0_openSign_65 rfl ?_
        refine g_geti (C := RX7) (T := TX7) (N := 19) hx hb hts (mc_ inX7) hown hK g mq1_ kq1_ (by decide) rfl 18 (by decide) rfl (hts _ (List.mem_cons_of_mem _ t_681)) (fun _ h9 => h9) rfl dX0_openSign_66 (fun x_78 bx_78 g => ?_)
        refine lv_iload_n hx hb dX0_openSign_69 rfl (lv_at hl 2 rfl) ?_
        refine lv_bipush (v := 40) hx hb dX0_openSign_70 (by decide) ?_
        refine lv_icmp_ne (tgt := 79) hx hb dX0_openSign_72 (by decide) (fun c_79 => ?_) (fun c_79 => ?_)
        · have fc_79 := neq_f c_79
          refine lv_iconst (v := 1) hx hb dX0_openSign_79 (by decide) ?_
          have kb_1 : bd 1 1 (1 : Int32) := ⟨by decide, by decide⟩
          refine lv_iadd hx hb dX0_openSign_80 ?_
          refine lv_topi (fun y_80 ey_80 => ?_)
          have go_ := g
          refine g_put (C := RX7) (T := TX7) (N := 19) hx hb hts (mc_ inX7) tyX7 tyX7_ok nmX7 hown hK g mq1_ kq1_ (by decide) rfl 18 (by decide) (hts _ (List.mem_cons_of_mem _ t_681)) (fun _ h9 => h9) rfl rfl (okV_i (bdT y_80)) rfl rfl (by decide) (Or.inr (Or.inl (by decide))) (fx' := [(0, 8, a0_, .int x_75), (0, 5, a0_, .ref a_71), (0, 3, a0_, .ref a_70), (0, 11, a0_, .int x_1), (0, 0, a0_, .ref q0_), (0, 2, a0_, .ref q1_), (8, 8, q0_, .int y0_)]) rfl dX0_openSign_81 (fun f H locs hM_81 g => ?_)
          have hG_82 := eJx.frame hM_81 go_.2.2.2.1 ma0_ ka0_ (by decide) (by decide) hG_73
          have hG_83 := eOK.frame hM_81 go_.2.2.2.1 ma0_ ka0_ (by decide) (by decide) hG_74
          refine lv_aload_n hx hb dX0_openSign_84 rfl (lv_at hl 1 rfl) ?_
          refine lv_dup hx hb dX0_openSign_85 rfl ?_
          refine g_getk (C := RX0) (T := TX0) (N := 14) hx hb hts (mc_ inX0) hown hK g rfl 11 (by decide) rfl (hts _ (List.mem_cons_of_mem _ t_384)) (fun _ h9 => h9) 4 rfl dX0_openSign_86 ?_
          refine lv_iconst (v := 1) hx hb dX0_openSign_89 (by decide) ?_
          refine lv_iadd hx hb dX0_openSign_90 ?_
          refine lv_topi (fun y_84 ey_84 => ?_)
          have ty_84 := add_bd ey_84 b_3 kb_1 (by decide)
          have b_85 : bd (-2147483647) 40 y_84 := add_rg ty_84 b_3 kb_1 (by decide)
          have go_ := g
          refine g_put (C := RX0) (T := TX0) (N := 14) hx hb hts (mc_ inX0) tyX0 tyX0_ok nmX0 hown hK g ma0_ ka0_ (by decide) rfl 11 (by decide) (hts _ (List.mem_cons_of_mem _ t_384)) (fun _ h9 => h9) rfl rfl (okV_i (bd_sub b_85 (by decide))) rfl rfl (by decide) (Or.inr (Or.inl (by decide))) (fx' := [(7, 18, q1_, .int y_80), (0, 8, a0_, .int x_75), (0, 5, a0_, .ref a_71), (0, 3, a0_, .ref a_70), (0, 0, a0_, .ref q0_), (0, 2, a0_, .ref q1_), (8, 8, q0_, .int y0_)]) rfl dX0_openSign_91 (fun f H locs hM_86 g => ?_)
          have hG_87 := eJx.frame hM_86 go_.2.2.2.1 ma0_ ka0_ (by decide) (by decide) hG_82
          have hG_88 := eOK.frame hM_86 go_.2.2.2.1 ma0_ ka0_ (by decide) (by decide) hG_83
          refine lv_aload_n hx hb dX0_openSign_94 rfl (lv_at hl 1 rfl) ?_
          refine g_getk (C := RX0) (T := TX0) (N := 14) hx hb hts (mc_ inX0) hown hK g rfl 0 (by decide) rfl (hts _ (List.mem_cons_of_mem _ t_373)) (fun _ h9 => h9) 5 rfl dX0_openSign_95 ?_
          have go_ := g
          refine g_callv (va_runV (As := []) (rest := []) ⟨hx, hb, hml, hown, hts⟩ (r_X8_next l dC dI L kd tys f H.size g.2.2.2.1 q0_ mq0_ kq0_) (cwV 0 hts (gV_ t_1225 t_1103 t_1104 t_184 t_1105) rfl rfl rfl (by decide +kernel) ⟨(Nat.le_of_ble_eq_true rfl), (Nat.le_of_ble_eq_true rfl)⟩) (pre3V g hK mq0_ kq0_ (by decide) (q := (RX8, TX8, 10)) rfl) rfl rfl hl.1 rfl (lv_room (Nat.le_of_ble_eq_true rfl)) dX0_openSign_98 ⟨(Nat.le_of_ble_eq_true rfl), (Nat.le_of_ble_eq_true rfl)⟩) g hK (by decide) (by decide) (fx' := [(0, 11, a0_, .int y_84), (7, 18, q1_, .int y_80), (0, 8, a0_, .int x_75), (0, 5, a0_, .ref a_71), (0, 3, a0_, .ref a_70), (0, 0, a0_, .ref q0_), (0, 2, a0_, .ref q1_), (8, 8, q0_, .int y0_)]) rfl (fun fr_89 H locs hp hMr_89 g => ?_)
          obtain ⟨x_90, h_91, hF_92⟩ := hp
          have hG_93 := eJx.frame hMr_89 go_.2.2.2.1 ma0_ ka0_ (by decide) (by decide) hG_87
          have hG_94 := eOK.frame hMr_89 go_.2.2.2.1 ma0_ ka0_ (by decide) (by decide) hG_88
          have g := g.more hF_92
          subst hQ
          exact W.vret hx hb hr (fun t ht hW => ⟨⟨_, rfl, Or.inl ⟨hG_93, hG_94, x_90, h_91, y_84, b_85, x_75, h_76, (g.fcts [0, 1, 3, 8] rfl)⟩, q3_of g hK ht hW⟩, g.2.2.1.F ht⟩) g.2.2.1.2.2 dX0_openSign_101
        · have fc_79 := eq_f c_79
          exact absurd fc_79 fc_66
      · have fc_66 := eq_f c_66
        have b_95 : bd 45 40 x1_ := eqX fc_66 b_65 kb_40 (by decide)
        exact bd_no b_95 (by decide)
  · have fc_2 := nlt_f c_2
    have b_96 : bd 40 2147483647 x_1 := leR fc_2 kb_40 (bdT x_1) (by decide)
    refine lv_aload_n hx hb dX0_openSign_9 rfl (lv_at hl 0 rfl) ?_
    refine g_getk (C := RX0) (T := TX0) (N := 14) hx hb hts (mc_ inX0) hown hK g rfl 0 (by decide) rfl (hts _ (List.mem_cons_of_mem _ t_373)) (fun _ h9 => h9) 1 rfl dX0_openSign_10 ?_
    refine lv_iconst (v := 4) hx hb dX0_openSign_13 (by decide) ?_
    refine lv_aload_n hx hb dX0_openSign_14 rfl (lv_at hl 0 rfl) ?_
    refine g_getk (C := RX0) (T := TX0) (N := 14) hx hb hts (mc_ inX0) hown hK g rfl 0 (by decide) rfl (hts _ (List.mem_cons_of_mem _ t_373)) (fun _ h9 => h9) 1 rfl dX0_openSign_15 ?_
    have go_ := g
    refine g_calli (va_runV (As := []) (rest := [.int 4, .ref q0_]) ⟨hx, hb, hml, hown, hts⟩ (r_X8_place l dC dI L kd tys f0 s.heap.size g.2.2.2.1 q0_ mq0_ kq0_) (cwV 0 hts (gV_ t_1220 t_1111 t_1112 t_184 t_1113) rfl rfl rfl (by decide +kernel) ⟨(Nat.le_of_ble_eq_true rfl), (Nat.le_of_ble_eq_true rfl)⟩) (pre3V g hK mq0_ kq0_ (by decide) (q := (RX8, TX8, 10)) rfl) rfl rfl hl.1 rfl (lv_room (Nat.le_of_ble_eq_true rfl)) dX0_openSign_18 ⟨(Nat.le_of_ble_eq_true rfl), (Nat.le_of_ble_eq_true rfl)⟩) g hK (by decide) (by decide) (fx' := [(0, 11, a0_, .int x_1), (0, 0, a0_, .ref q0_), (0, 2, a0_, .ref q1_), (8, 8, q0_, .int y0_)]) rfl (fun r_97 fr_97 H locs hp hMr_97 g => ?_)
    have hG_98 := eJx.frame hMr_97 go_.2.2.2.1 ma0_ ka0_ (by decide) (by decide) hGia0_
    have hG_99 := eOK.frame hMr_97 go_.2.2.2.1 ma0_ ka0_ (by decide) (by decide) hGea0_
    have kb_4 : bd 4 4 (4 : Int32) := ⟨by decide, by decide⟩
    have go_ := g
    refine g_callv (va_runV (As := [.int 4, .int r_97]) (rest := []) ⟨hx, hb, hml, hown, hts⟩ (r_X8_fail l dC dI L kd tys fr_97 H.size g.2.2.2.1 q0_ mq0_ kq0_ 4 (bd_sub kb_4 (by decide)) r_97 y0_ by0_ (g.fcts [3] rfl)) (cwV 2 hts (gV_ t_1215 t_1107 t_1108 t_184 t_1109) rfl rfl rfl (by decide +kernel) ⟨(Nat.le_of_ble_eq_true rfl), (Nat.le_of_ble_eq_true rfl)⟩) (pre3V g hK mq0_ kq0_ (by decide) (q := (RX8, TX8, 10)) rfl) rfl rfl hl.1 rfl (lv_room (Nat.le_of_ble_eq_true rfl)) dX0_openSign_21 ⟨(Nat.le_of_ble_eq_true rfl), (Nat.le_of_ble_eq_true rfl)⟩) g hK (by decide) (by decide) (fx' := [(0, 11, a0_, .int x_1), (0, 0, a0_, .ref q0_), (0, 2, a0_, .ref q1_)]) rfl (fun fr_100 H locs hp hMr_100 g => ?_)
    obtain ⟨x_101, h_102, hF_103⟩ := hp
    have hG_104 := eJx.frame hMr_100 go_.2.2.2.1 ma0_ ka0_ (by decide) (by decide) hG_98
    have hG_105 := eOK.frame hMr_100 go_.2.2.2.1 ma0_ ka0_ (by decide) (by decide) hG_99
    have g := g.more hF_103
    refine lv_iload_n hx hb dX0_openSign_24 rfl (lv_at hl 1 rfl) ?_
    refine lv_bipush (v := 45) hx hb dX0_openSign_25 (by decide) ?_
    have kb_45 : bd 45 45 (45 : Int32) := ⟨by decide, by decide⟩
    refine lv_icmp_ne (tgt := 35) hx hb dX0_openSign_27 (by decide) (fun c_106 => ?_) (fun c_106 => ?_)
    · have fc_106 := neq_f c_106
      refine lv_bipush (v := 7) hx hb dX0_openSign_35 (by decide) ?_
      refine lv_istore_n (lv' := [(2, .int 7), (0, .ref a0_), (1, .int x1_)]) hx hb dX0_openSign_37 rfl hl (by decide) rfl (fun ls hl => ?_)
      refine lv_aload_n hx hb dX0_openSign_38 rfl (lv_at hl 1 rfl) ?_
      refine lv_iload_n hx hb dX0_openSign_39 rfl (lv_at hl 2 rfl) ?_
      refine lv_bipush (v := 40) hx hb dX0_openSign_40 (by decide) ?_
      refine lv_icmp_ne (tgt := 49) hx hb dX0_openSign_42 (by decide) (fun c_107 => ?_) (fun c_107 => ?_)
      · have fc_107 := neq_f c_107
        refine lv_iload_n hx hb dX0_openSign_49 rfl (lv_at hl 0 rfl) ?_
        refine lv_aload_n hx hb dX0_openSign_50 rfl (lv_at hl 1 rfl) ?_
        refine g_getk (C := RX0) (T := TX0) (N := 14) hx hb hts (mc_ inX0) hown hK g rfl 0 (by decide) rfl (hts _ (List.mem_cons_of_mem _ t_373)) (fun _ h9 => h9) 3 rfl dX0_openSign_51 ?_
        have go_ := g
        refine g_calli (va_runV (As := []) (rest := [.int 7, .ref a0_]) ⟨hx, hb, hml, hown, hts⟩ (r_X8_place l dC dI L kd tys fr_100 H.size g.2.2.2.1 q0_ mq0_ kq0_) (cwV 0 hts (gV_ t_1220 t_1111 t_1112 t_184 t_1113) rfl rfl rfl (by decide +kernel) ⟨(Nat.le_of_ble_eq_true rfl), (Nat.le_of_ble_eq_true rfl)⟩) (pre3V g hK mq0_ kq0_ (by decide) (q := (RX8, TX8, 10)) rfl) rfl rfl hl.1 rfl (lv_room (Nat.le_of_ble_eq_true rfl)) dX0_openSign_54 ⟨(Nat.le_of_ble_eq_true rfl), (Nat.le_of_ble_eq_true rfl)⟩) g hK (by decide) (by decide) (fx' := [(8, 6, q0_, .int 1201), (8, 8, q0_, .int x_101), (0, 11, a0_, .int x_1), (0, 0, a0_, .ref q0_), (0, 2, a0_, .ref q1_)]) rfl (fun r_108 fr_108 H locs hp hMr_108 g => ?_)
        have hG_109 := eJx.frame hMr_108 go_.2.2.2.1 ma0_ ka0_ (by decide) (by decide) hG_104
        have hG_110 := eOK.frame hMr_108 go_.2.2.2.1 ma0_ ka0_ (by decide) (by decide) hG_105
        refine lv_iconst (v := 0) hx hb dX0_openSign_57 (by decide) ?_
        obtain ⟨a_111, ma_111, ka_111, g⟩ := g_factr (K := 110) g ma0_ ka0_ (by decide) 3 rfl
        obtain ⟨a_112, ma_112, ka_112, g⟩ := g_factr (K := 112) g ma0_ ka0_ (by decide) 5 rfl
        have kb_7 : bd 7 7 (7 : Int32) := ⟨by decide, by decide⟩
        have kb_0 : bd 0 0 (0 : Int32) := ⟨by decide, by decide⟩
        have go_ := g
        refine g_callv (va_runV (As := [.int 7, .int r_108, .int 0]) (rest := []) ⟨hx, hb, hml, hown, hts⟩ (r_X0_push_4 l dC dI L kd tys fr_108 H.size g.2.2.2.1 a0_ ma0_ ka0_ 7 r_108 0 q1_ mq1_ kq1_ a_111 ma_111 ka_111 a_112 ma_112 ka_112 hG_110 (erel_bd kb_7 kb_0 (by decide)) (g.fcts [6, 1, 0] rfl)) (cwV 3 hts (gV_ t_1221 t_1223 t_19 t_190 t_1224) rfl rfl rfl (by decide +kernel) ⟨(Nat.le_of_ble_eq_true rfl), (Nat.le_of_ble_eq_true rfl)⟩) (pre3V g hK ma0_ ka0_ (by decide) (q := (RX0, TX0, 14)) rfl) rfl rfl hl.1 rfl (lv_room (Nat.le_of_ble_eq_true rfl)) dX0_openSign_58 ⟨(Nat.le_of_ble_eq_true rfl), (Nat.le_of_ble_eq_true rfl)⟩) g hK (by decide) (by decide) (fx' := [(0, 5, a0_, .ref a_112), (0, 3, a0_, .ref a_111), (8, 6, q0_, .int 1201), (8, 8, q0_, .int x_101), (0, 11, a0_, .int x_1), (0, 0, a0_, .ref q0_), (0, 2, a0_, .ref q1_)]) rfl (fun fr_113 H locs hp hMr_113 g => ?_)
        obtain ⟨hG_114, x_115, h_116, hF_117⟩ := hp
        have g := g.more hF_117
        refine lv_aload_n hx hb dX0_openSign_61 rfl (lv_at hl 1 rfl) ?_
        refine g_getk (C := RX0) (T := TX0) (N := 14) hx hb hts (mc_ inX0) hown hK g rfl 2 (by decide) rfl (hts _ (List.mem_cons_of_mem _ t_375)) (fun _ h9 => h9) 7 rfl dX0_openSign_62 ?_
        refine lv_dup hx hb dX0_openSign_65 rfl ?_
        refine g_geti (C := RX7) (T := TX7) (N := 19) hx hb hts (mc_ inX7) hown hK g mq1_ kq1_ (by decide) rfl 18 (by decide) rfl (hts _ (List.mem_cons_of_mem _ t_681)) (fun _ h9 => h9) rfl dX0_openSign_66 (fun x_118 bx_118 g => ?_)
        refine lv_iload_n hx hb dX0_openSign_69 rfl (lv_at hl 2 rfl) ?_
        refine lv_bipush (v := 40) hx hb dX0_openSign_70 (by decide) ?_
        refine lv_icmp_ne (tgt := 79) hx hb dX0_openSign_72 (by decide) (fun c_119 => ?_) (fun c_119 => ?_)
        · have fc_119 := neq_f c_119
          refine lv_iconst (v := 1) hx hb dX0_openSign_79 (by decide) ?_
          have kb_1 : bd 1 1 (1 : Int32) := ⟨by decide, by decide⟩
          refine lv_iadd hx hb dX0_openSign_80 ?_
          refine lv_topi (fun y_120 ey_120 => ?_)
          have go_ := g
          refine g_put (C := RX7) (T := TX7) (N := 19) hx hb hts (mc_ inX7) tyX7 tyX7_ok nmX7 hown hK g mq1_ kq1_ (by decide) rfl 18 (by decide) (hts _ (List.mem_cons_of_mem _ t_681)) (fun _ h9 => h9) rfl rfl (okV_i (bdT y_120)) rfl rfl (by decide) (Or.inr (Or.inl (by decide))) (fx' := [(0, 8, a0_, .int x_115), (0, 5, a0_, .ref a_112), (0, 3, a0_, .ref a_111), (8, 6, q0_, .int 1201), (8, 8, q0_, .int x_101), (0, 11, a0_, .int x_1), (0, 0, a0_, .ref q0_), (0, 2, a0_, .ref q1_)]) rfl dX0_openSign_81 (fun f H locs hM_121 g => ?_)
          have hG_122 := eOK.frame hM_121 go_.2.2.2.1 ma0_ ka0_ (by decide) (by decide) hG_114
          refine lv_aload_n hx hb dX0_openSign_84 rfl (lv_at hl 1 rfl) ?_
          refine lv_dup hx hb dX0_openSign_85 rfl ?_
          refine g_getk (C := RX0) (T := TX0) (N := 14) hx hb hts (mc_ inX0) hown hK g rfl 11 (by decide) rfl (hts _ (List.mem_cons_of_mem _ t_384)) (fun _ h9 => h9) 6 rfl dX0_openSign_86 ?_
          refine lv_iconst (v := 1) hx hb dX0_openSign_89 (by decide) ?_
          refine lv_iadd hx hb dX0_openSign_90 ?_
          refine lv_topi (fun y_123 ey_123 => ?_)
          have go_ := g
          refine g_put (C := RX0) (T := TX0) (N := 14) hx hb hts (mc_ inX0) tyX0 tyX0_ok nmX0 hown hK g ma0_ ka0_ (by decide) rfl 11 (by decide) (hts _ (List.mem_cons_of_mem _ t_384)) (fun _ h9 => h9) rfl rfl (okV_i (bdT y_123)) rfl rfl (by decide) (Or.inr (Or.inl (by decide))) (fx' := [(7, 18, q1_, .int y_120), (0, 8, a0_, .int x_115), (0, 5, a0_, .ref a_112), (0, 3, a0_, .ref a_111), (8, 6, q0_, .int 1201), (8, 8, q0_, .int x_101), (0, 0, a0_, .ref q0_), (0, 2, a0_, .ref q1_)]) rfl dX0_openSign_91 (fun f H locs hM_124 g => ?_)
          have hG_125 := eOK.frame hM_124 go_.2.2.2.1 ma0_ ka0_ (by decide) (by decide) hG_122
          refine lv_aload_n hx hb dX0_openSign_94 rfl (lv_at hl 1 rfl) ?_
          refine g_getk (C := RX0) (T := TX0) (N := 14) hx hb hts (mc_ inX0) hown hK g rfl 0 (by decide) rfl (hts _ (List.mem_cons_of_mem _ t_373)) (fun _ h9 => h9) 7 rfl dX0_openSign_95 ?_
          have kb_1201 : bd 1201 1201 (1201 : Int32) := ⟨by decide, by decide⟩
          have go_ := g
          refine g_callv (va_runV (As := []) (rest := []) ⟨hx, hb, hml, hown, hts⟩ (r_X8_next_2 l dC dI L kd tys f H.size g.2.2.2.1 q0_ mq0_ kq0_ 1201 kb_1201 (g.fcts [5] rfl)) (cwV 0 hts (gV_ t_1225 t_1103 t_1104 t_184 t_1105) rfl rfl rfl (by decide +kernel) ⟨(Nat.le_of_ble_eq_true rfl), (Nat.le_of_ble_eq_true rfl)⟩) (pre3V g hK mq0_ kq0_ (by decide) (q := (RX8, TX8, 10)) rfl) rfl rfl hl.1 rfl (lv_room (Nat.le_of_ble_eq_true rfl)) dX0_openSign_98 ⟨(Nat.le_of_ble_eq_true rfl), (Nat.le_of_ble_eq_true rfl)⟩) g hK (by decide) (by decide) (fx' := [(0, 11, a0_, .int y_123), (7, 18, q1_, .int y_120), (0, 8, a0_, .int x_115), (0, 5, a0_, .ref a_112), (0, 3, a0_, .ref a_111), (8, 6, q0_, .int 1201), (8, 8, q0_, .int x_101), (0, 0, a0_, .ref q0_), (0, 2, a0_, .ref q1_)]) rfl (fun fr_126 H locs hp hMr_126 g => ?_)
          have hG_127 := eOK.frame hMr_126 go_.2.2.2.1 ma0_ ka0_ (by decide) (by decide) hG_125
          subst hQ
          exact W.vret hx hb hr (fun t ht hW => ⟨⟨_, rfl, Or.inr (⟨hG_127, x_115, h_116, x_101, h_102, (g.fcts [2, 5, 6] rfl)⟩), q3_of g hK ht hW⟩, g.2.2.1.F ht⟩) g.2.2.1.2.2 dX0_openSign_101
        · have fc_119 := eq_f c_119
          exact absurd fc_119 fc_107
      · have fc_107 := eq_f c_107
        have b_128 : bd 40 40 x1_ := eqX fc_107 (bdT x1_) kb_40 (by decide)
        refine lv_iconst (v := 1) hx hb dX0_openSign_45 (by decide) ?_
        refine lv_goto (tgt := 50) hx hb dX0_openSign_46 (by decide) ?_
        refine lv_aload_n hx hb dX0_openSign_50 rfl (lv_at hl 1 rfl) ?_
        refine g_getk (C := RX0) (T := TX0) (N := 14) hx hb hts (mc_ inX0) hown hK g rfl 0 (by decide) rfl (hts _ (List.mem_cons_of_mem _ t_373)) (fun _ h9 => h9) 3 rfl dX0_openSign_51 ?_
        have go_ := g
        refine g_calli (va_runV (As := []) (rest := [.int 1, .ref a0_]) ⟨hx, hb, hml, hown, hts⟩ (r_X8_place l dC dI L kd tys fr_100 H.size g.2.2.2.1 q0_ mq0_ kq0_) (cwV 0 hts (gV_ t_1220 t_1111 t_1112 t_184 t_1113) rfl rfl rfl (by decide +kernel) ⟨(Nat.le_of_ble_eq_true rfl), (Nat.le_of_ble_eq_true rfl)⟩) (pre3V g hK mq0_ kq0_ (by decide) (q := (RX8, TX8, 10)) rfl) rfl rfl hl.1 rfl (lv_room (Nat.le_of_ble_eq_true rfl)) dX0_openSign_54 ⟨(Nat.le_of_ble_eq_true rfl), (Nat.le_of_ble_eq_true rfl)⟩) g hK (by decide) (by decide) (fx' := [(8, 6, q0_, .int 1201), (8, 8, q0_, .int x_101), (0, 11, a0_, .int x_1), (0, 0, a0_, .ref q0_), (0, 2, a0_, .ref q1_)]) rfl (fun r_129 fr_129 H locs hp hMr_129 g => ?_)
        have hG_130 := eJx.frame hMr_129 go_.2.2.2.1 ma0_ ka0_ (by decide) (by decide) hG_104
        have hG_131 := eOK.frame hMr_129 go_.2.2.2.1 ma0_ ka0_ (by decide) (by decide) hG_105
        refine lv_iconst (v := 0) hx hb dX0_openSign_57 (by decide) ?_
        obtain ⟨a_132, ma_132, ka_132, g⟩ := g_factr (K := 110) g ma0_ ka0_ (by decide) 3 rfl
        obtain ⟨a_133, ma_133, ka_133, g⟩ := g_factr (K := 112) g ma0_ ka0_ (by decide) 5 rfl
        have kb_1 : bd 1 1 (1 : Int32) := ⟨by decide, by decide⟩
        have kb_0 : bd 0 0 (0 : Int32) := ⟨by decide, by decide⟩
        have go_ := g
        refine g_callv (va_runV (As := [.int 1, .int r_129, .int 0]) (rest := []) ⟨hx, hb, hml, hown, hts⟩ (r_X0_push_4 l dC dI L kd tys fr_129 H.size g.2.2.2.1 a0_ ma0_ ka0_ 1 r_129 0 q1_ mq1_ kq1_ a_132 ma_132 ka_132 a_133 ma_133 ka_133 hG_131 (erel_bd kb_1 kb_0 (by decide)) (g.fcts [6, 1, 0] rfl)) (cwV 3 hts (gV_ t_1221 t_1223 t_19 t_190 t_1224) rfl rfl rfl (by decide +kernel) ⟨(Nat.le_of_ble_eq_true rfl), (Nat.le_of_ble_eq_true rfl)⟩) (pre3V g hK ma0_ ka0_ (by decide) (q := (RX0, TX0, 14)) rfl) rfl rfl hl.1 rfl (lv_room (Nat.le_of_ble_eq_true rfl)) dX0_openSign_58 ⟨(Nat.le_of_ble_eq_true rfl), (Nat.le_of_ble_eq_true rfl)⟩) g hK (by decide) (by decide) (fx' := [(0, 5, a0_, .ref a_133), (0, 3, a0_, .ref a_132), (8, 6, q0_, .int 1201), (8, 8, q0_, .int x_101), (0, 11, a0_, .int x_1), (0, 0, a0_, .ref q0_), (0, 2, a0_, .ref q1_)]) rfl (fun fr_134 H locs hp hMr_134 g => ?_)
        obtain ⟨hG_135, x_136, h_137, hF_138⟩ := hp
        have g := g.more hF_138
        refine lv_aload_n hx hb dX0_openSign_61 rfl (lv_at hl 1 rfl) ?_
        refine g_getk (C := RX0) (T := TX0) (N := 14) hx hb hts (mc_ inX0) hown hK g rfl 2 (by decide) rfl (hts _ (List.mem_cons_of_mem _ t_375)) (fun _ h9 => h9) 7 rfl dX0_openSign_62 ?_
        refine lv_dup hx hb dX0_openSign_65 rfl ?_
        refine g_geti (C := RX7) (T := TX7) (N := 19) hx hb hts (mc_ inX7) hown hK g mq1_ kq1_ (by decide) rfl 18 (by decide) rfl (hts _ (List.mem_cons_of_mem _ t_681)) (fun _ h9 => h9) rfl dX0_openSign_66 (fun x_139 bx_139 g => ?_)
        refine lv_iload_n hx hb dX0_openSign_69 rfl (lv_at hl 2 rfl) ?_
        refine lv_bipush (v := 40) hx hb dX0_openSign_70 (by decide) ?_
        refine lv_icmp_ne (tgt := 79) hx hb dX0_openSign_72 (by decide) (fun c_140 => ?_) (fun c_140 => ?_)
        · have fc_140 := neq_f c_140
          have b_141 : bd 41 39 x1_ := neX fc_140 b_128 kb_40 (by decide)
          exact bd_no b_141 (by decide)
        · have fc_140 := eq_f c_140
          refine lv_iconst (v := 0) hx hb dX0_openSign_75 (by decide) ?_
          refine lv_goto (tgt := 80) hx hb dX0_openSign_76 (by decide) ?_
          refine lv_iadd hx hb dX0_openSign_80 ?_
          refine lv_topi (fun y_142 ey_142 => ?_)
          have ty_142 := add_bd ey_142 (bdT x_139) kb_0 (by decide)
          have b_143 : bd (-2147483648) 2147483647 y_142 := add_rg ty_142 (bdT x_139) kb_0 (by decide)
          have go_ := g
          refine g_put (C := RX7) (T := TX7) (N := 19) hx hb hts (mc_ inX7) tyX7 tyX7_ok nmX7 hown hK g mq1_ kq1_ (by decide) rfl 18 (by decide) (hts _ (List.mem_cons_of_mem _ t_681)) (fun _ h9 => h9) rfl rfl (okV_i b_143) rfl rfl (by decide) (Or.inr (Or.inl (by decide))) (fx' := [(0, 8, a0_, .int x_136), (0, 5, a0_, .ref a_133), (0, 3, a0_, .ref a_132), (8, 6, q0_, .int 1201), (8, 8, q0_, .int x_101), (0, 11, a0_, .int x_1), (0, 0, a0_, .ref q0_), (0, 2, a0_, .ref q1_)]) rfl dX0_openSign_81 (fun f H locs hM_144 g => ?_)
          have hG_145 := eOK.frame hM_144 go_.2.2.2.1 ma0_ ka0_ (by decide) (by decide) hG_135
          refine lv_aload_n hx hb dX0_openSign_84 rfl (lv_at hl 1 rfl) ?_
          refine lv_dup hx hb dX0_openSign_85 rfl ?_
          refine g_getk (C := RX0) (T := TX0) (N := 14) hx hb hts (mc_ inX0) hown hK g rfl 11 (by decide) rfl (hts _ (List.mem_cons_of_mem _ t_384)) (fun _ h9 => h9) 6 rfl dX0_openSign_86 ?_
          refine lv_iconst (v := 1) hx hb dX0_openSign_89 (by decide) ?_
          refine lv_iadd hx hb dX0_openSign_90 ?_
          refine lv_topi (fun y_146 ey_146 => ?_)
          have go_ := g
          refine g_put (C := RX0) (T := TX0) (N := 14) hx hb hts (mc_ inX0) tyX0 tyX0_ok nmX0 hown hK g ma0_ ka0_ (by decide) rfl 11 (by decide) (hts _ (List.mem_cons_of_mem _ t_384)) (fun _ h9 => h9) rfl rfl (okV_i (bdT y_146)) rfl rfl (by decide) (Or.inr (Or.inl (by decide))) (fx' := [(7, 18, q1_, .int y_142), (0, 8, a0_, .int x_136), (0, 5, a0_, .ref a_133), (0, 3, a0_, .ref a_132), (8, 6, q0_, .int 1201), (8, 8, q0_, .int x_101), (0, 0, a0_, .ref q0_), (0, 2, a0_, .ref q1_)]) rfl dX0_openSign_91 (fun f H locs hM_147 g => ?_)
          have hG_148 := eOK.frame hM_147 go_.2.2.2.1 ma0_ ka0_ (by decide) (by decide) hG_145
          refine lv_aload_n hx hb dX0_openSign_94 rfl (lv_at hl 1 rfl) ?_
          refine g_getk (C := RX0) (T := TX0) (N := 14) hx hb hts (mc_ inX0) hown hK g rfl 0 (by decide) rfl (hts _ (List.mem_cons_of_mem _ t_373)) (fun _ h9 => h9) 7 rfl dX0_openSign_95 ?_
          have kb_1201 : bd 1201 1201 (1201 : Int32) := ⟨by decide, by decide⟩
          have go_ := g
          refine g_callv (va_runV (As := []) (rest := []) ⟨hx, hb, hml, hown, hts⟩ (r_X8_next_2 l dC dI L kd tys f H.size g.2.2.2.1 q0_ mq0_ kq0_ 1201 kb_1201 (g.fcts [5] rfl)) (cwV 0 hts (gV_ t_1225 t_1103 t_1104 t_184 t_1105) rfl rfl rfl (by decide +kernel) ⟨(Nat.le_of_ble_eq_true rfl), (Nat.le_of_ble_eq_true rfl)⟩) (pre3V g hK mq0_ kq0_ (by decide) (q := (RX8, TX8, 10)) rfl) rfl rfl hl.1 rfl (lv_room (Nat.le_of_ble_eq_true rfl)) dX0_openSign_98 ⟨(Nat.le_of_ble_eq_true rfl), (Nat.le_of_ble_eq_true rfl)⟩) g hK (by decide) (by decide) (fx' := [(0, 11, a0_, .int y_146), (7, 18, q1_, .int y_142), (0, 8, a0_, .int x_136), (0, 5, a0_, .ref a_133), (0, 3, a0_, .ref a_132), (8, 6, q0_, .int 1201), (8, 8, q0_, .int x_101), (0, 0, a0_, .ref q0_), (0, 2, a0_, .ref q1_)]) rfl (fun fr_149 H locs hp hMr_149 g => ?_)
          have hG_150 := eOK.frame hMr_149 go_.2.2.2.1 ma0_ ka0_ (by decide) (by decide) hG_148
          subst hQ
          exact W.vret hx hb hr (fun t ht hW => ⟨⟨_, rfl, Or.inr (⟨hG_150, x_136, h_137, x_101, h_102, (g.fcts [2, 5, 6] rfl)⟩), q3_of g hK ht hW⟩, g.2.2.1.F ht⟩) g.2.2.1.2.2 dX0_openSign_101
    · have fc_106 := eq_f c_106
      have b_151 : bd 45 45 x1_ := eqX fc_106 (bdT x1_) kb_45 (by decide)
      refine lv_bipush (v := 6) hx hb dX0_openSign_30 (by decide) ?_
      refine lv_goto (tgt := 37) hx hb dX0_openSign_32 (by decide) ?_
      refine lv_istore_n (lv' := [(2, .int 6), (0, .ref a0_), (1, .int x1_)]) hx hb dX0_openSign_37 rfl hl (by decide) rfl (fun ls hl => ?_)
      refine lv_aload_n hx hb dX0_openSign_38 rfl (lv_at hl 1 rfl) ?_
      refine lv_iload_n hx hb dX0_openSign_39 rfl (lv_at hl 2 rfl) ?_
      refine lv_bipush (v := 40) hx hb dX0_openSign_40 (by decide) ?_
      refine lv_icmp_ne (tgt := 49) hx hb dX0_openSign_42 (by decide) (fun c_152 => ?_) (fun c_152 => ?_)
      · have fc_152 := neq_f c_152
        refine lv_iload_n hx hb dX0_openSign_49 rfl (lv_at hl 0 rfl) ?_
        refine lv_aload_n hx hb dX0_openSign_50 rfl (lv_at hl 1 rfl) ?_
        refine g_getk (C := RX0) (T := TX0) (N := 14) hx hb hts (mc_ inX0) hown hK g rfl 0 (by decide) rfl (hts _ (List.mem_cons_of_mem _ t_373)) (fun _ h9 => h9) 3 rfl dX0_openSign_51 ?_
        have go_ := g
        refine g_calli (va_runV (As := []) (rest := [.int 6, .ref a0_]) ⟨hx, hb, hml, hown, hts⟩ (r_X8_place l dC dI L kd tys fr_100 H.size g.2.2.2.1 q0_ mq0_ kq0_) (cwV 0 hts (gV_ t_1220 t_1111 t_1112 t_184 t_1113) rfl rfl rfl (by decide +kernel) ⟨(Nat.le_of_ble_eq_true rfl), (Nat.le_of_ble_eq_true rfl)⟩) (pre3V g hK mq0_ kq0_ (by decide) (q := (RX8, TX8, 10)) rfl) rfl rfl hl.1 rfl (lv_room (Nat.le_of_ble_eq_true rfl)) dX0_openSign_54 ⟨(Nat.le_of_ble_eq_true rfl), (Nat.le_of_ble_eq_true rfl)⟩) g hK (by decide) (by decide) (fx' := [(8, 6, q0_, .int 1201), (8, 8, q0_, .int x_101), (0, 11, a0_, .int x_1), (0, 0, a0_, .ref q0_), (0, 2, a0_, .ref q1_)]) rfl (fun r_153 fr_153 H locs hp hMr_153 g => ?_)
        have hG_154 := eJx.frame hMr_153 go_.2.2.2.1 ma0_ ka0_ (by decide) (by decide) hG_104
        have hG_155 := eOK.frame hMr_153 go_.2.2.2.1 ma0_ ka0_ (by decide) (by decide) hG_105
        refine lv_iconst (v := 0) hx hb dX0_openSign_57 (by decide) ?_
        obtain ⟨a_156, ma_156, ka_156, g⟩ := g_factr (K := 110) g ma0_ ka0_ (by decide) 3 rfl
        obtain ⟨a_157, ma_157, ka_157, g⟩ := g_factr (K := 112) g ma0_ ka0_ (by decide) 5 rfl
        have kb_6 : bd 6 6 (6 : Int32) := ⟨by decide, by decide⟩
        have kb_0 : bd 0 0 (0 : Int32) := ⟨by decide, by decide⟩
        have go_ := g
        refine g_callv (va_runV (As := [.int 6, .int r_153, .int 0]) (rest := []) ⟨hx, hb, hml, hown, hts⟩ (r_X0_push_4 l dC dI L kd tys fr_153 H.size g.2.2.2.1 a0_ ma0_ ka0_ 6 r_153 0 q1_ mq1_ kq1_ a_156 ma_156 ka_156 a_157 ma_157 ka_157 hG_155 (erel_bd kb_6 kb_0 (by decide)) (g.fcts [6, 1, 0] rfl)) (cwV 3 hts (gV_ t_1221 t_1223 t_19 t_190 t_1224) rfl rfl rfl (by decide +kernel) ⟨(Nat.le_of_ble_eq_true rfl), (Nat.le_of_ble_eq_true rfl)⟩) (pre3V g hK ma0_ ka0_ (by decide) (q := (RX0, TX0, 14)) rfl) rfl rfl hl.1 rfl (lv_room (Nat.le_of_ble_eq_true rfl)) dX0_openSign_58 ⟨(Nat.le_of_ble_eq_true rfl), (Nat.le_of_ble_eq_true rfl)⟩) g hK (by decide) (by decide) (fx' := [(0, 5, a0_, .ref a_157), (0, 3, a0_, .ref a_156), (8, 6, q0_, .int 1201), (8, 8, q0_, .int x_101), (0, 11, a0_, .int x_1), (0, 0, a0_, .ref q0_), (0, 2, a0_, .ref q1_)]) rfl (fun fr_158 H locs hp hMr_158 g => ?_)
        obtain ⟨hG_159, x_160, h_161, hF_162⟩ := hp
        have g := g.more hF_162
        refine lv_aload_n hx hb dX0_openSign_61 rfl (lv_at hl 1 rfl) ?_
        refine g_getk (C := RX0) (T := TX0) (N := 14) hx hb hts (mc_ inX0) hown hK g rfl 2 (by decide) rfl (hts _ (List.mem_cons_of_mem _ t_375)) (fun _ h9 => h9) 7 rfl dX0_openSign_62 ?_
        refine lv_dup hx hb dX0_openSign_65 rfl ?_
        refine g_geti (C := RX7) (T := TX7) (N := 19) hx hb hts (mc_ inX7) hown hK g mq1_ kq1_ (by decide) rfl 18 (by decide) rfl (hts _ (List.mem_cons_of_mem _ t_681)) (fun _ h9 => h9) rfl dX0_openSign_66 (fun x_163 bx_163 g => ?_)
        refine lv_iload_n hx hb dX0_openSign_69 rfl (lv_at hl 2 rfl) ?_
        refine lv_bipush (v := 40) hx hb dX0_openSign_70 (by decide) ?_
        refine lv_icmp_ne (tgt := 79) hx hb dX0_openSign_72 (by decide) (fun c_164 => ?_) (fun c_164 => ?_)
        · have fc_164 := neq_f c_164
          refine lv_iconst (v := 1) hx hb dX0_openSign_79 (by decide) ?_
          have kb_1 : bd 1 1 (1 : Int32) := ⟨by decide, by decide⟩
          refine lv_iadd hx hb dX0_openSign_80 ?_
          refine lv_topi (fun y_165 ey_165 => ?_)
          have go_ := g
          refine g_put (C := RX7) (T := TX7) (N := 19) hx hb hts (mc_ inX7) tyX7 tyX7_ok nmX7 hown hK g mq1_ kq1_ (by decide) rfl 18 (by decide) (hts _ (List.mem_cons_of_mem _ t_681)) (fun _ h9 => h9) rfl rfl (okV_i (bdT y_165)) rfl rfl (by decide) (Or.inr (Or.inl (by decide))) (fx' := [(0, 8, a0_, .int x_160), (0, 5, a0_, .ref a_157), (0, 3, a0_, .ref a_156), (8, 6, q0_, .int 1201), (8, 8, q0_, .int x_101), (0, 11, a0_, .int x_1), (0, 0, a0_, .ref q0_), (0, 2, a0_, .ref q1_)]) rfl dX0_openSign_81 (fun f H locs hM_166 g => ?_)
          have hG_167 := eOK.frame hM_166 go_.2.2.2.1 ma0_ ka0_ (by decide) (by decide) hG_159
          refine lv_aload_n hx hb dX0_openSign_84 rfl (lv_at hl 1 rfl) ?_
          refine lv_dup hx hb dX0_openSign_85 rfl ?_
          refine g_getk (C := RX0) (T := TX0) (N := 14) hx hb hts (mc_ inX0) hown hK g rfl 11 (by decide) rfl (hts _ (List.mem_cons_of_mem _ t_384)) (fun _ h9 => h9) 6 rfl dX0_openSign_86 ?_
          refine lv_iconst (v := 1) hx hb dX0_openSign_89 (by decide) ?_
          refine lv_iadd hx hb dX0_openSign_90 ?_
          refine lv_topi (fun y_168 ey_168 => ?_)
          have go_ := g
          refine g_put (C := RX0) (T := TX0) (N := 14) hx hb hts (mc_ inX0) tyX0 tyX0_ok nmX0 hown hK g ma0_ ka0_ (by decide) rfl 11 (by decide) (hts _ (List.mem_cons_of_mem _ t_384)) (fun _ h9 => h9) rfl rfl (okV_i (bdT y_168)) rfl rfl (by decide) (Or.inr (Or.inl (by decide))) (fx' := [(7, 18, q1_, .int y_165), (0, 8, a0_, .int x_160), (0, 5, a0_, .ref a_157), (0, 3, a0_, .ref a_156), (8, 6, q0_, .int 1201), (8, 8, q0_, .int x_101), (0, 0, a0_, .ref q0_), (0, 2, a0_, .ref q1_)]) rfl dX0_openSign_91 (fun f H locs hM_169 g => ?_)
          have hG_170 := eOK.frame hM_169 go_.2.2.2.1 ma0_ ka0_ (by decide) (by decide) hG_167
          refine lv_aload_n hx hb dX0_openSign_94 rfl (lv_at hl 1 rfl) ?_
          refine g_getk (C := RX0) (T := TX0) (N := 14) hx hb hts (mc_ inX0) hown hK g rfl 0 (by decide) rfl (hts _ (List.mem_cons_of_mem _ t_373)) (fun _ h9 => h9) 7 rfl dX0_openSign_95 ?_
          have kb_1201 : bd 1201 1201 (1201 : Int32) := ⟨by decide, by decide⟩
          have go_ := g
          refine g_callv (va_runV (As := []) (rest := []) ⟨hx, hb, hml, hown, hts⟩ (r_X8_next_2 l dC dI L kd tys f H.size g.2.2.2.1 q0_ mq0_ kq0_ 1201 kb_1201 (g.fcts [5] rfl)) (cwV 0 hts (gV_ t_1225 t_1103 t_1104 t_184 t_1105) rfl rfl rfl (by decide +kernel) ⟨(Nat.le_of_ble_eq_true rfl), (Nat.le_of_ble_eq_true rfl)⟩) (pre3V g hK mq0_ kq0_ (by decide) (q := (RX8, TX8, 10)) rfl) rfl rfl hl.1 rfl (lv_room (Nat.le_of_ble_eq_true rfl)) dX0_openSign_98 ⟨(Nat.le_of_ble_eq_true rfl), (Nat.le_of_ble_eq_true rfl)⟩) g hK (by decide) (by decide) (fx' := [(0, 11, a0_, .int y_168), (7, 18, q1_, .int y_165), (0, 8, a0_, .int x_160), (0, 5, a0_, .ref a_157), (0, 3, a0_, .ref a_156), (8, 6, q0_, .int 1201), (8, 8, q0_, .int x_101), (0, 0, a0_, .ref q0_), (0, 2, a0_, .ref q1_)]) rfl (fun fr_171 H locs hp hMr_171 g => ?_)
          have hG_172 := eOK.frame hMr_171 go_.2.2.2.1 ma0_ ka0_ (by decide) (by decide) hG_170
          subst hQ
          exact W.vret hx hb hr (fun t ht hW => ⟨⟨_, rfl, Or.inr (⟨hG_172, x_160, h_161, x_101, h_102, (g.fcts [2, 5, 6] rfl)⟩), q3_of g hK ht hW⟩, g.2.2.1.F ht⟩) g.2.2.1.2.2 dX0_openSign_101
        · have fc_164 := eq_f c_164
          exact absurd fc_164 fc_152
      · have fc_152 := eq_f c_152
        have b_173 : bd 45 40 x1_ := eqX fc_152 b_151 kb_40 (by decide)
        exact bd_no b_173 (by decide)
set_option maxHeartbeats 4000000 in
set_option maxRecDepth 100000 in
theorem r_X0_openIndex_2 (l : Launch) (dC : Nat → ClassId) (dI : Nat → Nat → Nat) (L : List Nat) (kd : Nat → Nat) (tys : List (ClassId × FieldType)) (f0 : Nat → va_E) (sz : Nat) (hWT : WT L kd tys f0) (a0_ : Nat) (ma0_ : a0_ ∈ L) (ka0_ : kd a0_ = 0) (x1_ : Int32) (bx1_ : bd 5 5 x1_) (x2_ : Int32) (x3_ : Int32) (bx3_ : bd 0 9 x3_) (q0_ : Nat) (mq0_ : q0_ ∈ L) (kq0_ : kd q0_ = 8) (q1_ : Nat) (mq1_ : q1_ ∈ L) (kq1_ : kd q1_ = 5) (q2_ : Nat) (mq2_ : q2_ ∈ L) (kq2_ : kd q2_ = 7) (q3_ : Nat) (mq3_ : q3_ ∈ L) (kq3_ : kd q3_ = 9) (y0_ : Int32) (by0_ : bd (-2147483647) 40 y0_) (y1_ : Int32) (by1_ : bd 1 10 y1_) (y2_ : Int32) (by2_ : bd 0 0 y2_) (hGia0_ : eJx f0 a0_) (hGea0_ : eOK f0 a0_) (hfx : Fs L kd f0 [(0, 0, a0_, .ref q0_), (0, 1, a0_, .ref q1_), (0, 2, a0_, .ref q2_), (5, 1, q1_, .ref q3_), (0, 11, a0_, .int y0_), (9, 2, q3_, .int y1_), (8, 8, q0_, .int y2_)]) : Met l yX0_openIndex (.code yX0_openIndex cX0_openIndex 4 none :: lw_g) ({ frames := 1, cells := 0, slots := 0, locals := 23 }) (va_Pc [.ref a0_, .int x1_, .int x2_, .int x3_] (P3 (dC, dI) L tys f0 sz)) (va_Qv (fun (f : Nat → va_E) => (eJx f a0_ ∧ eOK f a0_ ∧ bd (-2147483647) 39 y0_ ∧ ∃ z0_ : Int32, bd 1 1201 z0_ ∧ ∃ z1_ : Int32, bd (-2147483646) 40 z1_ ∧ ∃ z2_ : Int32, bd 1 300 z2_ ∧ Fs L kd f [(8, 6, q0_, .int z0_), (0, 11, a0_, .int z1_), (0, 8, a0_, .int z2_), (8, 8, q0_, .int y2_)]) ∨ (eOK f a0_ ∧ bd 40 40 y0_ ∧ ∃ z0_ : Int32, bd 41 41 z0_ ∧ ∃ z1_ : Int32, bd 1 300 z1_ ∧ ∃ z3_ : Int32, bd 1 7 z3_ ∧ Fs L kd f [(0, 11, a0_, .int z0_), (0, 8, a0_, .int z1_), (8, 6, q0_, .int 1201), (8, 8, q0_, .int z3_)])) (Q3 (dC, dI) L kd tys [(0, 8), (0, 11), (8, 6), (8, 8), (8, 9)] [110, 111, 112, 113, 114] f0 sz) (pA L sz)) 0 0 (pA L sz) := by
  refine Met.ofW (cc := cX0_openIndex) (maxL := 4) (ret := none) (by decide) rfl ?_
  intro p e s m args below meth c s₁ B hml hv
  obtain ⟨rfl, hsz, hP, hK, hD0⟩ := hv
  have hx := B.exec
  have hb := B.bytes
  have hr := B.returns
  have hts := atoms_spec (ws := (.code yX0_openIndex cX0_openIndex 4 none :: lw_g)) B.pre
  have hown : s.vm.findClass RX0 = some m.cls := findClass_of_methodNamed B.named
  have hlocks := B.notSynchronized
  subst hsz
  have g : G3 (dC, dI) L kd tys s f0 [(0, 8), (0, 11), (8, 6), (8, 8), (8, 9)] [110, 111, 112, 113, 114] f0 s.heap [] [(0, 0, a0_, .ref q0_), (0, 1, a0_, .ref q1_), (0, 2, a0_, .ref q2_), (5, 1, q1_, .ref q3_), (0, 11, a0_, .int y0_), (9, 2, q3_, .int y1_), (8, 8, q0_, .int y2_)] := G3.start hP hD0 hWT hfx
  have hl := lv_entry ([.ref a0_, .int x1_, .int x2_, .int x3_]) (n := 4) (Nat.le_of_ble_eq_true rfl)
  rw [lg_entry_eq]
  generalize (lg_sl ([.ref a0_, .int x1_, .int x2_, .int x3_]) ++ List.replicate (4 - (lg_sl ([.ref a0_, .int x1_, .int x2_, .int x3_])).length) Slot.unset).toArray = ls at hl ⊢
  have hl : lv_has ls 4 [(0, .ref a0_), (1, .int x1_), (2, .int x2_), (3, .int x3_)] := hl
  refine W_q (fun Q hQ => ?_)
  refine lv_aload_n hx hb dX0_openIndex_0 rfl (lv_at hl 0 rfl) ?_
  refine g_getk (C := RX0) (T := TX0) (N := 14) hx hb hts (mc_ inX0) hown hK g rfl 11 (by decide) rfl (hts _ (List.mem_cons_of_mem _ t_384)) (fun _ h9 => h9) 4 rfl dX0_openIndex_1 ?_
  refine lv_bipush (v := 40) hx hb dX0_openIndex_4 (by decide) ?_
  have kb_40 : bd 40 40 (40 : Int32) := ⟨by decide, by decide⟩
  refine lv_icmp_lt (tgt := 24) hx hb dX0_openIndex_6 (by decide) (fun c_1 => ?_) (fun c_1 => ?_)
  · have fc_1 := lt_f c_1
    have b_2 : bd (-2147483647) 39 y0_ := ltL fc_1 by0_ kb_40 (by decide)
    refine lv_aload_n hx hb dX0_openIndex_24 rfl (lv_at hl 0 rfl) ?_
    refine lv_iload_n hx hb dX0_openIndex_25 rfl (lv_at hl 1 rfl) ?_
    refine lv_iload_n hx hb dX0_openIndex_26 rfl (lv_at hl 2 rfl) ?_
    refine lv_aload_n hx hb dX0_openIndex_27 rfl (lv_at hl 0 rfl) ?_
    refine g_getk (C := RX0) (T := TX0) (N := 14) hx hb hts (mc_ inX0) hown hK g rfl 1 (by decide) rfl (hts _ (List.mem_cons_of_mem _ t_374)) (fun _ h9 => h9) 1 rfl dX0_openIndex_28 ?_
    refine g_getk (C := RX5) (T := TX5) (N := 9) hx hb hts (mc_ inX5) hown hK g rfl 1 (by decide) rfl (hts _ (List.mem_cons_of_mem _ t_332)) (fun _ h9 => h9) 3 rfl dX0_openIndex_31 ?_
    refine lv_iload_n hx hb dX0_openIndex_34 rfl (lv_at hl 3 rfl) ?_
    have go_ := g
    refine g_calli (va_runV (As := [.int x3_]) (rest := [.int x2_, .int x1_, .ref a0_]) ⟨hx, hb, hml, hown, hts⟩ (r_X9_spanOf l dC dI L kd tys f0 s.heap.size g.2.2.2.1 q3_ mq3_ kq3_ x3_) (cwV 1 hts (gV_ t_1264 t_1265 t_1266 t_192 t_1267) rfl rfl rfl (by decide +kernel) ⟨(Nat.le_of_ble_eq_true rfl), (Nat.le_of_ble_eq_true rfl)⟩) (pre3V g hK mq3_ kq3_ (by decide) (q := (RX9, TX9, 13)) rfl) rfl rfl hl.1 rfl (lv_room (Nat.le_of_ble_eq_true rfl)) dX0_openIndex_35 ⟨(Nat.le_of_ble_eq_true rfl), (Nat.le_of_ble_eq_true rfl)⟩) g hK (by decide) (by decide) (fx' := [(0, 0, a0_, .ref q0_), (0, 1, a0_, .ref q1_), (0, 2, a0_, .ref q2_), (5, 1, q1_, .ref q3_), (0, 11, a0_, .int y0_), (9, 2, q3_, .int y1_), (8, 8, q0_, .int y2_)]) rfl (fun r_3 fr_3 H locs hp hMr_3 g => ?_)
    obtain ⟨h_4, -⟩ := hp
    have hG_5 := eJx.frame hMr_3 go_.2.2.2.1 ma0_ ka0_ (by decide) (by decide) hGia0_
    have hG_6 := eOK.frame hMr_3 go_.2.2.2.1 ma0_ ka0_ (by decide) (by decide) hGea0_
    obtain ⟨a_7, ma_7, ka_7, g⟩ := g_factr (K := 110) g ma0_ ka0_ (by decide) 3 rfl
    obtain ⟨a_8, ma_8, ka_8, g⟩ := g_factr (K := 112) g ma0_ ka0_ (by decide) 5 rfl
    have go_ := g
    refine g_callv (va_runV (As := [.int x1_, .int x2_, .int r_3]) (rest := []) ⟨hx, hb, hml, hown, hts⟩ (r_X0_push_3 l dC dI L kd tys fr_3 H.size g.2.2.2.1 a0_ ma0_ ka0_ x1_ x2_ r_3 q2_ mq2_ kq2_ a_7 ma_7 ka_7 a_8 ma_8 ka_8 hG_5 hG_6 (erel_bd bx1_ h_4 (by decide)) ⟨(fun h9 => (by exfalso; have h9_0 := h_4; unfold bd at h9_0; have h9_1 := bx1_; unfold bd at h9_1; have h9_2 := bx3_; unfold bd at h9_2; have h9_3 := b_2; unfold bd at h9_3; have h9_4 := by1_; unfold bd at h9_4; have h9_5 := by2_; unfold bd at h9_5; have h8_0 := kb_40; unfold bd at h8_0; omega)), (fun h9 => ⟨(by have h9_0 := h_4; unfold bd at h9_0; have h9_1 := bx1_; unfold bd at h9_1; have h9_2 := bx3_; unfold bd at h9_2; have h9_3 := b_2; unfold bd at h9_3; have h9_4 := by1_; unfold bd at h9_4; have h9_5 := by2_; unfold bd at h9_5; have h8_0 := kb_40; unfold bd at h8_0; omega), (by have h9_0 := h_4; unfold bd at h9_0; have h9_1 := bx1_; unfold bd at h9_1; have h9_2 := bx3_; unfold bd at h9_2; have h9_3 := b_2; unfold bd at h9_3; have h9_4 := by1_; unfold bd at h9_4; have h9_5 := by2_; unfold bd at h9_5; have h8_0 := kb_40; unfold bd at h8_0; omega)⟩)⟩ (g.fcts [4, 1, 0] rfl)) (cwV 3 hts (gV_ t_1221 t_1223 t_19 t_190 t_1224) rfl rfl rfl (by decide +kernel) ⟨(Nat.le_of_ble_eq_true rfl), (Nat.le_of_ble_eq_true rfl)⟩) (pre3V g hK ma0_ ka0_ (by decide) (q := (RX0, TX0, 14)) rfl) rfl rfl hl.1 rfl (lv_room (Nat.le_of_ble_eq_true rfl)) dX0_openIndex_38 ⟨(Nat.le_of_ble_eq_true rfl), (Nat.le_of_ble_eq_true rfl)⟩) g hK (by decide) (by decide) (fx' := [(0, 5, a0_, .ref a_8), (0, 3, a0_, .ref a_7), (0, 0, a0_, .ref q0_), (0, 1, a0_, .ref q1_), (0, 2, a0_, .ref q2_), (5, 1, q1_, .ref q3_), (0, 11, a0_, .int y0_), (9, 2, q3_, .int y1_), (8, 8, q0_, .int y2_)]) rfl (fun fr_9 H locs hp hMr_9 g => ?_)
    obtain ⟨hG_10, hG_11, x_12, h_13, hF_14⟩ := hp
    have g := g.more hF_14
    refine lv_aload_n hx hb dX0_openIndex_41 rfl (lv_at hl 0 rfl) ?_
    refine lv_dup hx hb dX0_openIndex_42 rfl ?_
    refine g_getk (C := RX0) (T := TX0) (N := 14) hx hb hts (mc_ inX0) hown hK g rfl 11 (by decide) rfl (hts _ (List.mem_cons_of_mem _ t_384)) (fun _ h9 => h9) 7 rfl dX0_openIndex_43 ?_
    refine lv_iconst (v := 1) hx hb dX0_openIndex_46 (by decide) ?_
    have kb_1 : bd 1 1 (1 : Int32) := ⟨by decide, by decide⟩
    refine lv_iadd hx hb dX0_openIndex_47 ?_
    refine lv_topi (fun y_15 ey_15 => ?_)
    have ty_15 := add_bd ey_15 b_2 kb_1 (by decide)
    have b_16 : bd (-2147483646) 40 y_15 := add_rg ty_15 b_2 kb_1 (by decide)
    have go_ := g
    refine g_put (C := RX0) (T := TX0) (N := 14) hx hb hts (mc_ inX0) tyX0 tyX0_ok nmX0 hown hK g ma0_ ka0_ (by decide) rfl 11 (by decide) (hts _ (List.mem_cons_of_mem _ t_384)) (fun _ h9 => h9) rfl rfl (okV_i (bd_sub b_16 (by decide))) rfl rfl (by decide) (Or.inr (Or.inl (by decide))) (fx' := [(0, 8, a0_, .int x_12), (0, 5, a0_, .ref a_8), (0, 3, a0_, .ref a_7), (0, 0, a0_, .ref q0_), (0, 1, a0_, .ref q1_), (0, 2, a0_, .ref q2_), (5, 1, q1_, .ref q3_), (9, 2, q3_, .int y1_), (8, 8, q0_, .int y2_)]) rfl dX0_openIndex_48 (fun f H locs hM_17 g => ?_)
    have hG_18 := eJx.frame hM_17 go_.2.2.2.1 ma0_ ka0_ (by decide) (by decide) hG_10
    have hG_19 := eOK.frame hM_17 go_.2.2.2.1 ma0_ ka0_ (by decide) (by decide) hG_11
    refine lv_aload_n hx hb dX0_openIndex_51 rfl (lv_at hl 0 rfl) ?_
    refine g_getk (C := RX0) (T := TX0) (N := 14) hx hb hts (mc_ inX0) hown hK g rfl 0 (by decide) rfl (hts _ (List.mem_cons_of_mem _ t_373)) (fun _ h9 => h9) 4 rfl dX0_openIndex_52 ?_
    have go_ := g
    refine g_callv (va_runV (As := []) (rest := []) ⟨hx, hb, hml, hown, hts⟩ (r_X8_next l dC dI L kd tys f H.size g.2.2.2.1 q0_ mq0_ kq0_) (cwV 0 hts (gV_ t_1225 t_1103 t_1104 t_184 t_1105) rfl rfl rfl (by decide +kernel) ⟨(Nat.le_of_ble_eq_true rfl), (Nat.le_of_ble_eq_true rfl)⟩) (pre3V g hK mq0_ kq0_ (by decide) (q := (RX8, TX8, 10)) rfl) rfl rfl hl.1 rfl (lv_room (Nat.le_of_ble_eq_true rfl)) dX0_openIndex_55 ⟨(Nat.le_of_ble_eq_true rfl), (Nat.le_of_ble_eq_true rfl)⟩) g hK (by decide) (by decide) (fx' := [(0, 11, a0_, .int y_15), (0, 8, a0_, .int x_12), (0, 5, a0_, .ref a_8), (0, 3, a0_, .ref a_7), (0, 0, a0_, .ref q0_), (0, 1, a0_, .ref q1_), (0, 2, a0_, .ref q2_), (5, 1, q1_, .ref q3_), (9, 2, q3_, .int y1_), (8, 8, q0_, .int y2_)]) rfl (fun fr_20 H locs hp hMr_20 g => ?_)
    obtain ⟨x_21, h_22, hF_23⟩ := hp
    have hG_24 := eJx.frame hMr_20 go_.2.2.2.1 ma0_ ka0_ (by decide) (by decide) hG_18
    have hG_25 := eOK.frame hMr_20 go_.2.2.2.1 ma0_ ka0_ (by decide) (by decide) hG_19
    have g := g.more hF_23
    subst hQ
    exact W.vret hx hb hr (fun t ht hW => ⟨⟨_, rfl, Or.inl ⟨hG_24, hG_25, b_2, x_21, h_22, y_15, b_16, x_12, h_13, (g.fcts [0, 1, 2, 10] rfl)⟩, q3_of g hK ht hW⟩, g.2.2.1.F ht⟩) g.2.2.1.2.2 dX0_openIndex_58
  · have fc_1 := nlt_f c_1
    have b_26 : bd 40 40 y0_ := leR fc_1 kb_40 by0_ (by decide)
    refine lv_aload_n hx hb dX0_openIndex_9 rfl (lv_at hl 0 rfl) ?_
    refine g_getk (C := RX0) (T := TX0) (N := 14) hx hb hts (mc_ inX0) hown hK g rfl 0 (by decide) rfl (hts _ (List.mem_cons_of_mem _ t_373)) (fun _ h9 => h9) 0 rfl dX0_openIndex_10 ?_
    refine lv_iconst (v := 4) hx hb dX0_openIndex_13 (by decide) ?_
    refine lv_aload_n hx hb dX0_openIndex_14 rfl (lv_at hl 0 rfl) ?_
    refine g_getk (C := RX0) (T := TX0) (N := 14) hx hb hts (mc_ inX0) hown hK g rfl 0 (by decide) rfl (hts _ (List.mem_cons_of_mem _ t_373)) (fun _ h9 => h9) 0 rfl dX0_openIndex_15 ?_
    have go_ := g
    refine g_calli (va_runV (As := []) (rest := [.int 4, .ref q0_]) ⟨hx, hb, hml, hown, hts⟩ (r_X8_place l dC dI L kd tys f0 s.heap.size g.2.2.2.1 q0_ mq0_ kq0_) (cwV 0 hts (gV_ t_1220 t_1111 t_1112 t_184 t_1113) rfl rfl rfl (by decide +kernel) ⟨(Nat.le_of_ble_eq_true rfl), (Nat.le_of_ble_eq_true rfl)⟩) (pre3V g hK mq0_ kq0_ (by decide) (q := (RX8, TX8, 10)) rfl) rfl rfl hl.1 rfl (lv_room (Nat.le_of_ble_eq_true rfl)) dX0_openIndex_18 ⟨(Nat.le_of_ble_eq_true rfl), (Nat.le_of_ble_eq_true rfl)⟩) g hK (by decide) (by decide) (fx' := [(0, 0, a0_, .ref q0_), (0, 1, a0_, .ref q1_), (0, 2, a0_, .ref q2_), (5, 1, q1_, .ref q3_), (0, 11, a0_, .int y0_), (9, 2, q3_, .int y1_), (8, 8, q0_, .int y2_)]) rfl (fun r_27 fr_27 H locs hp hMr_27 g => ?_)
    have hG_28 := eJx.frame hMr_27 go_.2.2.2.1 ma0_ ka0_ (by decide) (by decide) hGia0_
    have hG_29 := eOK.frame hMr_27 go_.2.2.2.1 ma0_ ka0_ (by decide) (by decide) hGea0_
    have kb_4 : bd 4 4 (4 : Int32) := ⟨by decide, by decide⟩
    have go_ := g
    refine g_callv (va_runV (As := [.int 4, .int r_27]) (rest := []) ⟨hx, hb, hml, hown, hts⟩ (r_X8_fail l dC dI L kd tys fr_27 H.size g.2.2.2.1 q0_ mq0_ kq0_ 4 (bd_sub kb_4 (by decide)) r_27 y2_ by2_ (g.fcts [6] rfl)) (cwV 2 hts (gV_ t_1215 t_1107 t_1108 t_184 t_1109) rfl rfl rfl (by decide +kernel) ⟨(Nat.le_of_ble_eq_true rfl), (Nat.le_of_ble_eq_true rfl)⟩) (pre3V g hK mq0_ kq0_ (by decide) (q := (RX8, TX8, 10)) rfl) rfl rfl hl.1 rfl (lv_room (Nat.le_of_ble_eq_true rfl)) dX0_openIndex_21 ⟨(Nat.le_of_ble_eq_true rfl), (Nat.le_of_ble_eq_true rfl)⟩) g hK (by decide) (by decide) (fx' := [(0, 0, a0_, .ref q0_), (0, 1, a0_, .ref q1_), (0, 2, a0_, .ref q2_), (5, 1, q1_, .ref q3_), (0, 11, a0_, .int y0_), (9, 2, q3_, .int y1_)]) rfl (fun fr_30 H locs hp hMr_30 g => ?_)
    obtain ⟨x_31, h_32, hF_33⟩ := hp
    have hG_34 := eJx.frame hMr_30 go_.2.2.2.1 ma0_ ka0_ (by decide) (by decide) hG_28
    have hG_35 := eOK.frame hMr_30 go_.2.2.2.1 ma0_ ka0_ (by decide) (by decide) hG_29
    have g := g.more hF_33
    refine lv_aload_n hx hb dX0_openIndex_24 rfl (lv_at hl 0 rfl) ?_
    refine lv_iload_n hx hb dX0_openIndex_25 rfl (lv_at hl 1 rfl) ?_
    refine lv_iload_n hx hb dX0_openIndex_26 rfl (lv_at hl 2 rfl) ?_
    refine lv_aload_n hx hb dX0_openIndex_27 rfl (lv_at hl 0 rfl) ?_
    refine g_getk (C := RX0) (T := TX0) (N := 14) hx hb hts (mc_ inX0) hown hK g rfl 1 (by decide) rfl (hts _ (List.mem_cons_of_mem _ t_374)) (fun _ h9 => h9) 3 rfl dX0_openIndex_28 ?_
    refine g_getk (C := RX5) (T := TX5) (N := 9) hx hb hts (mc_ inX5) hown hK g rfl 1 (by decide) rfl (hts _ (List.mem_cons_of_mem _ t_332)) (fun _ h9 => h9) 5 rfl dX0_openIndex_31 ?_
    refine lv_iload_n hx hb dX0_openIndex_34 rfl (lv_at hl 3 rfl) ?_
    have go_ := g
    refine g_calli (va_runV (As := [.int x3_]) (rest := [.int x2_, .int x1_, .ref a0_]) ⟨hx, hb, hml, hown, hts⟩ (r_X9_spanOf l dC dI L kd tys fr_30 H.size g.2.2.2.1 q3_ mq3_ kq3_ x3_) (cwV 1 hts (gV_ t_1264 t_1265 t_1266 t_192 t_1267) rfl rfl rfl (by decide +kernel) ⟨(Nat.le_of_ble_eq_true rfl), (Nat.le_of_ble_eq_true rfl)⟩) (pre3V g hK mq3_ kq3_ (by decide) (q := (RX9, TX9, 13)) rfl) rfl rfl hl.1 rfl (lv_room (Nat.le_of_ble_eq_true rfl)) dX0_openIndex_35 ⟨(Nat.le_of_ble_eq_true rfl), (Nat.le_of_ble_eq_true rfl)⟩) g hK (by decide) (by decide) (fx' := [(8, 6, q0_, .int 1201), (8, 8, q0_, .int x_31), (0, 0, a0_, .ref q0_), (0, 1, a0_, .ref q1_), (0, 2, a0_, .ref q2_), (5, 1, q1_, .ref q3_), (0, 11, a0_, .int y0_), (9, 2, q3_, .int y1_)]) rfl (fun r_36 fr_36 H locs hp hMr_36 g => ?_)
    obtain ⟨h_37, -⟩ := hp
    have hG_38 := eJx.frame hMr_36 go_.2.2.2.1 ma0_ ka0_ (by decide) (by decide) hG_34
    have hG_39 := eOK.frame hMr_36 go_.2.2.2.1 ma0_ ka0_ (by decide) (by decide) hG_35
    obtain ⟨a_40, ma_40, ka_40, g⟩ := g_factr (K := 110) g ma0_ ka0_ (by decide) 3 rfl
    obtain ⟨a_41, ma_41, ka_41, g⟩ := g_factr (K := 112) g ma0_ ka0_ (by decide) 5 rfl
    have go_ := g
    refine g_callv (va_runV (As := [.int x1_, .int x2_, .int r_36]) (rest := []) ⟨hx, hb, hml, hown, hts⟩ (r_X0_push_4 l dC dI L kd tys fr_36 H.size g.2.2.2.1 a0_ ma0_ ka0_ x1_ x2_ r_36 q2_ mq2_ kq2_ a_40 ma_40 ka_40 a_41 ma_41 ka_41 hG_39 (erel_bd bx1_ h_37 (by decide)) (g.fcts [6, 1, 0] rfl)) (cwV 3 hts (gV_ t_1221 t_1223 t_19 t_190 t_1224) rfl rfl rfl (by decide +kernel) ⟨(Nat.le_of_ble_eq_true rfl), (Nat.le_of_ble_eq_true rfl)⟩) (pre3V g hK ma0_ ka0_ (by decide) (q := (RX0, TX0, 14)) rfl) rfl rfl hl.1 rfl (lv_room (Nat.le_of_ble_eq_true rfl)) dX0_openIndex_38 ⟨(Nat.le_of_ble_eq_true rfl), (Nat.le_of_ble_eq_true rfl)⟩) g hK (by decide) (by decide) (fx' := [(0, 5, a0_, .ref a_41), (0, 3, a0_, .ref a_40), (8, 6, q0_, .int 1201), (8, 8, q0_, .int x_31), (0, 0, a0_, .ref q0_), (0, 1, a0_, .ref q1_), (0, 2, a0_, .ref q2_), (5, 1, q1_, .ref q3_), (0, 11, a0_, .int y0_), (9, 2, q3_, .int y1_)]) rfl (fun fr_42 H locs hp hMr_42 g => ?_)
    obtain ⟨hG_43, x_44, h_45, hF_46⟩ := hp
    have g := g.more hF_46
    refine lv_aload_n hx hb dX0_openIndex_41 rfl (lv_at hl 0 rfl) ?_
    refine lv_dup hx hb dX0_openIndex_42 rfl ?_
    refine g_getk (C := RX0) (T := TX0) (N := 14) hx hb hts (mc_ inX0) hown hK g rfl 11 (by decide) rfl (hts _ (List.mem_cons_of_mem _ t_384)) (fun _ h9 => h9) 9 rfl dX0_openIndex_43 ?_
    refine lv_iconst (v := 1) hx hb dX0_openIndex_46 (by decide) ?_
    have kb_1 : bd 1 1 (1 : Int32) := ⟨by decide, by decide⟩
    refine lv_iadd hx hb dX0_openIndex_47 ?_
    refine lv_topi (fun y_47 ey_47 => ?_)
    have ty_47 := add_bd ey_47 b_26 kb_1 (by decide)
    have b_48 : bd 41 41 y_47 := add_rg ty_47 b_26 kb_1 (by decide)
    have go_ := g
    refine g_put (C := RX0) (T := TX0) (N := 14) hx hb hts (mc_ inX0) tyX0 tyX0_ok nmX0 hown hK g ma0_ ka0_ (by decide) rfl 11 (by decide) (hts _ (List.mem_cons_of_mem _ t_384)) (fun _ h9 => h9) rfl rfl (okV_i (bd_sub b_48 (by decide))) rfl rfl (by decide) (Or.inr (Or.inl (by decide))) (fx' := [(0, 8, a0_, .int x_44), (0, 5, a0_, .ref a_41), (0, 3, a0_, .ref a_40), (8, 6, q0_, .int 1201), (8, 8, q0_, .int x_31), (0, 0, a0_, .ref q0_), (0, 1, a0_, .ref q1_), (0, 2, a0_, .ref q2_), (5, 1, q1_, .ref q3_), (9, 2, q3_, .int y1_)]) rfl dX0_openIndex_48 (fun f H locs hM_49 g => ?_)
    have hG_50 := eOK.frame hM_49 go_.2.2.2.1 ma0_ ka0_ (by decide) (by decide) hG_43
    refine lv_aload_n hx hb dX0_openIndex_51 rfl (lv_at hl 0 rfl) ?_
    refine g_getk (C := RX0) (T := TX0) (N := 14) hx hb hts (mc_ inX0) hown hK g rfl 0 (by decide) rfl (hts _ (List.mem_cons_of_mem _ t_373)) (fun _ h9 => h9) 6 rfl dX0_openIndex_52 ?_
    have kb_1201 : bd 1201 1201 (1201 : Int32) := ⟨by decide, by decide⟩
    have go_ := g
    refine g_callv (va_runV (As := []) (rest := []) ⟨hx, hb, hml, hown, hts⟩ (r_X8_next_2 l dC dI L kd tys f H.size g.2.2.2.1 q0_ mq0_ kq0_ 1201 kb_1201 (g.fcts [4] rfl)) (cwV 0 hts (gV_ t_1225 t_1103 t_1104 t_184 t_1105) rfl rfl rfl (by decide +kernel) ⟨(Nat.le_of_ble_eq_true rfl), (Nat.le_of_ble_eq_true rfl)⟩) (pre3V g hK mq0_ kq0_ (by decide) (q := (RX8, TX8, 10)) rfl) rfl rfl hl.1 rfl (lv_room (Nat.le_of_ble_eq_true rfl)) dX0_openIndex_55 ⟨(Nat.le_of_ble_eq_true rfl), (Nat.le_of_ble_eq_true rfl)⟩) g hK (by decide) (by decide) (fx' := [(0, 11, a0_, .int y_47), (0, 8, a0_, .int x_44), (0, 5, a0_, .ref a_41), (0, 3, a0_, .ref a_40), (8, 6, q0_, .int 1201), (8, 8, q0_, .int x_31), (0, 0, a0_, .ref q0_), (0, 1, a0_, .ref q1_), (0, 2, a0_, .ref q2_), (5, 1, q1_, .ref q3_), (9, 2, q3_, .int y1_)]) rfl (fun fr_51 H locs hp hMr_51 g => ?_)
    have hG_52 := eOK.frame hMr_51 go_.2.2.2.1 ma0_ ka0_ (by decide) (by decide) hG_50
    subst hQ
    exact W.vret hx hb hr (fun t ht hW => ⟨⟨_, rfl, Or.inr (⟨hG_52, b_26, y_47, b_48, x_44, h_45, x_31, h_32, (g.fcts [0, 1, 4, 5] rfl)⟩), q3_of g hK ht hW⟩, g.2.2.1.F ht⟩) g.2.2.1.2.2 dX0_openIndex_58
