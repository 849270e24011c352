set_option maxHeartbeats 4000000 in
set_option maxRecDepth 100000 in
theorem r_X2_readAsked (l : Launch) (dC : Nat → ClassId) (dI : Nat → Nat → Nat) (L : List Nat) (kd : Nat → Nat) (tys : List (ClassId × FieldType)) (f0 : Nat → va_E) (sz : Nat) (hWT : WT L kd tys f0) (a0_ : Nat) (ma0_ : a0_ ∈ L) (ka0_ : kd a0_ = 2) (x1_ : Int32) (bx1_ : bd 0 0 x1_) (q0_ : Nat) (mq0_ : q0_ ∈ L) (kq0_ : kd q0_ = 8) (q1_ : Nat) (mq1_ : q1_ ∈ L) (kq1_ : kd q1_ = 5) (q2_ : Nat) (mq2_ : q2_ ∈ L) (kq2_ : kd q2_ = 0) (q3_ : Nat) (mq3_ : q3_ ∈ L) (kq3_ : kd q3_ = 7) (q7_ : Nat) (mq7_ : q7_ ∈ L) (kq7_ : kd q7_ = 9) (y0_ : Int32) (by0_ : bd 1 500 y0_) (y1_ : Int32) (by1_ : bd 0 0 y1_) (T_ : Nat) (J_ : Int32 → Prop) (hGeq2_ : eOK f0 q2_) (hGcq3_ : cOK f0 q3_) (hGdq3_ : dOK L kd f0 q3_ T_) (hGsq3_ : jS f0 q3_ J_) (hfx : Fs L kd f0 [(2, 0, a0_, .ref q0_), (2, 1, a0_, .ref q1_), (2, 2, a0_, .ref q2_), (2, 3, a0_, .ref q3_), (0, 0, q2_, .ref q0_), (0, 1, q2_, .ref q1_), (5, 0, q1_, .ref q3_), (5, 1, q1_, .ref q7_), (7, 13, q3_, .int y0_), (8, 8, q0_, .int y1_)]) : Met l yX2_readAsked (.code yX2_readAsked cX2_readAsked 2 none :: lw_g) ({ frames := 4, cells := 0, slots := 0, locals := 97 }) (va_Pc [.ref a0_, .int x1_] (P3 (dC, dI) L tys f0 sz)) (va_Qv (fun (f : Nat → va_E) => (eOK f q2_ ∧ cOK f q3_ ∧ dOK L kd f q3_ T_ ∧ jS f q3_ J_ ∧ Fs L kd f [(5, 8, q1_, .int 0), (5, 7, q1_, .int 0), (0, 2, q2_, .ref q3_), (8, 8, q0_, .int y1_)]) ∨ (eOK f q2_ ∧ dOK L kd f q3_ T_ ∧ ∃ z2_ : Int32, bd 1201 1201 z2_ ∧ ∃ z3_ : Int32, bd 1 7 z3_ ∧ Fs L kd f [(5, 8, q1_, .int 0), (5, 7, q1_, .int 0), (8, 6, q0_, .int z2_), (8, 8, q0_, .int z3_), (0, 2, q2_, .ref q3_)])) (Q3 (dC, dI) L kd tys [(0, 2), (0, 8), (0, 10), (0, 11), (0, 12), (0, 13), (5, 7), (5, 8), (7, 6), (7, 18), (8, 6), (8, 8), (8, 9)] [110, 111, 112, 113, 114, 115, 138, 139] f0 sz) (pA L sz)) 0 0 (pA L sz) := by
  refine Met.ofW (cc := cX2_readAsked) (maxL := 2) (ret := none) (by decide) rfl ?_
  intro p e s m args below meth c s₁ B hml hv
  obtain ⟨rfl, hsz, hP, hK, hD0⟩ := hv
  have hx := B.exec
  have hb := B.bytes
  have hr := B.returns
  have hts := atoms_spec (ws := (.code yX2_readAsked cX2_readAsked 2 none :: lw_g)) B.pre
  have hown : s.vm.findClass RX2 = some m.cls := findClass_of_methodNamed B.named
  have hlocks := B.notSynchronized
  subst hsz
  have g : G3 (dC, dI) L kd tys s f0 [(0, 2), (0, 8), (0, 10), (0, 11), (0, 12), (0, 13), (5, 7), (5, 8), (7, 6), (7, 18), (8, 6), (8, 8), (8, 9)] [110, 111, 112, 113, 114, 115, 138, 139] f0 s.heap [] [(2, 0, a0_, .ref q0_), (2, 1, a0_, .ref q1_), (2, 2, a0_, .ref q2_), (2, 3, a0_, .ref q3_), (0, 0, q2_, .ref q0_), (0, 1, q2_, .ref q1_), (5, 0, q1_, .ref q3_), (5, 1, q1_, .ref q7_), (7, 13, q3_, .int y0_), (8, 8, q0_, .int y1_)] := G3.start hP hD0 hWT hfx
  have hl := lv_entry ([.ref a0_, .int x1_]) (n := 2) (Nat.le_of_ble_eq_true rfl)
  rw [lg_entry_eq]
  generalize (lg_sl ([.ref a0_, .int x1_]) ++ List.replicate (2 - (lg_sl ([.ref a0_, .int x1_])).length) Slot.unset).toArray = ls at hl ⊢
  have hl : lv_has ls 2 [(0, .ref a0_), (1, .int x1_)] := hl
  refine W_q (fun Q hQ => ?_)
  refine lv_aload_n hx hb dX2_readAsked_0 rfl (lv_at hl 0 rfl) ?_
  refine g_getk (C := RX2) (T := TX2) (N := 16) hx hb hts (mc_ inX2) hown hK g rfl 1 (by decide) rfl (hts _ (List.mem_cons_of_mem _ t_417)) (fun _ h9 => h9) 1 rfl dX2_readAsked_1 ?_
  refine lv_iconst (v := 1) hx hb dX2_readAsked_4 (by decide) ?_
  have kb_1 : bd 1 1 (1 : Int32) := ⟨by decide, by decide⟩
  have go_ := g
  refine g_put (C := RX5) (T := TX5) (N := 9) hx hb hts (mc_ inX5) tyX5 tyX5_ok nmX5 hown hK g mq1_ kq1_ (by decide) rfl 7 (by decide) (hts _ (List.mem_cons_of_mem _ t_344)) (fun _ h9 => h9) rfl rfl (okV_i (bd_sub kb_1 (by decide))) rfl rfl (by decide) (Or.inr (Or.inl (by decide))) (fx' := [(2, 0, a0_, .ref q0_), (2, 1, a0_, .ref q1_), (2, 2, a0_, .ref q2_), (2, 3, a0_, .ref q3_), (0, 0, q2_, .ref q0_), (0, 1, q2_, .ref q1_), (5, 0, q1_, .ref q3_), (5, 1, q1_, .ref q7_), (7, 13, q3_, .int y0_), (8, 8, q0_, .int y1_)]) rfl dX2_readAsked_5 (fun f H locs hM_1 g => ?_)
  have hG_2 := eOK.frame hM_1 go_.2.2.2.1 mq2_ kq2_ (by decide) (by decide) hGeq2_
  have hG_3 := cOK.frame hM_1 go_.2.2.2.1 mq3_ kq3_ (by decide) (by decide) hGcq3_
  have hG_4 := dOK.frame hM_1 go_.2.2.2.1 mq3_ kq3_ (by decide) (by decide) hGdq3_
  have hG_5 := jS.frame hM_1 go_.2.2.2.1 mq3_ kq3_ (by decide) (by decide) hGsq3_
  refine lv_aload_n hx hb dX2_readAsked_8 rfl (lv_at hl 0 rfl) ?_
  refine g_getk (C := RX2) (T := TX2) (N := 16) hx hb hts (mc_ inX2) hown hK g rfl 1 (by decide) rfl (hts _ (List.mem_cons_of_mem _ t_417)) (fun _ h9 => h9) 2 rfl dX2_readAsked_9 ?_
  refine lv_iload_n hx hb dX2_readAsked_12 rfl (lv_at hl 1 rfl) ?_
  have go_ := g
  refine g_put (C := RX5) (T := TX5) (N := 9) hx hb hts (mc_ inX5) tyX5 tyX5_ok nmX5 hown hK g mq1_ kq1_ (by decide) rfl 8 (by decide) (hts _ (List.mem_cons_of_mem _ t_347)) (fun _ h9 => h9) rfl rfl (okV_i (bd_sub bx1_ (by decide))) (nar_z (bd_sub bx1_ (by decide) : bd 0 1 _).1 (bd_sub bx1_ (by decide) : bd 0 1 _).2) (fit_z (bd_sub bx1_ (by decide) : bd 0 1 _)) (by decide) (Or.inr (Or.inl (by decide))) (fx' := [(5, 7, q1_, .int 1), (2, 0, a0_, .ref q0_), (2, 1, a0_, .ref q1_), (2, 2, a0_, .ref q2_), (2, 3, a0_, .ref q3_), (0, 0, q2_, .ref q0_), (0, 1, q2_, .ref q1_), (5, 0, q1_, .ref q3_), (5, 1, q1_, .ref q7_), (7, 13, q3_, .int y0_), (8, 8, q0_, .int y1_)]) rfl dX2_readAsked_13 (fun f H locs hM_6 g => ?_)
  have hG_7 := eOK.frame hM_6 go_.2.2.2.1 mq2_ kq2_ (by decide) (by decide) hG_2
  have hG_8 := cOK.frame hM_6 go_.2.2.2.1 mq3_ kq3_ (by decide) (by decide) hG_3
  have hG_9 := dOK.frame hM_6 go_.2.2.2.1 mq3_ kq3_ (by decide) (by decide) hG_4
  have hG_10 := jS.frame hM_6 go_.2.2.2.1 mq3_ kq3_ (by decide) (by decide) hG_5
  refine lv_aload_n hx hb dX2_readAsked_16 rfl (lv_at hl 0 rfl) ?_
  refine g_getk (C := RX2) (T := TX2) (N := 16) hx hb hts (mc_ inX2) hown hK g rfl 2 (by decide) rfl (hts _ (List.mem_cons_of_mem _ t_418)) (fun _ h9 => h9) 4 rfl dX2_readAsked_17 ?_
  have go_ := g
  refine g_callv (va_runV (As := []) (rest := []) ⟨hx, hb, hml, hown, hts⟩ (r_X0_read l dC dI L kd tys f H.size g.2.2.2.1 q2_ mq2_ kq2_ q0_ mq0_ kq0_ q1_ mq1_ kq1_ q3_ mq3_ kq3_ q7_ mq7_ kq7_ y1_ by1_ T_ (fun j9 => jOK f q3_ j9) hG_7 hG_8 hG_9 (fun _ h9 => h9) (g.fcts [6, 7, 8, 9, 11] rfl)) (cwV 0 hts (gV_ t_1182 t_1183 t_1184 t_190 t_1185) rfl rfl rfl (by decide +kernel) ⟨(Nat.le_of_ble_eq_true rfl), (Nat.le_of_ble_eq_true rfl)⟩) (pre3V g hK mq2_ kq2_ (by decide) (q := (RX0, TX0, 14)) rfl) rfl rfl hl.1 rfl (lv_room (Nat.le_of_ble_eq_true rfl)) dX2_readAsked_20 ⟨(Nat.le_of_ble_eq_true rfl), (Nat.le_of_ble_eq_true rfl)⟩) g hK (by decide) (by decide) (fx' := [(5, 8, q1_, .int x1_), (5, 7, q1_, .int 1), (2, 0, a0_, .ref q0_), (2, 1, a0_, .ref q1_), (2, 2, a0_, .ref q2_), (2, 3, a0_, .ref q3_), (0, 0, q2_, .ref q0_), (0, 1, q2_, .ref q1_), (5, 0, q1_, .ref q3_), (5, 1, q1_, .ref q7_), (7, 13, q3_, .int y0_)]) rfl (fun fr_11 H locs hp hMr_11 g => ?_)
  rcases hp with ⟨hG_12, hG_13, hG_14, hG_15, hF_16⟩ | ⟨hG_17, hG_18, x_19, h_20, x_21, h_22, hF_23⟩
  · have g := g.more hF_16
    have hs_24 := jS.mv hG_10 hG_15
    refine lv_aload_n hx hb dX2_readAsked_23 rfl (lv_at hl 0 rfl) ?_
    refine g_getk (C := RX2) (T := TX2) (N := 16) hx hb hts (mc_ inX2) hown hK g rfl 1 (by decide) rfl (hts _ (List.mem_cons_of_mem _ t_417)) (fun _ h9 => h9) 5 rfl dX2_readAsked_24 ?_
    refine lv_iconst (v := 0) hx hb dX2_readAsked_27 (by decide) ?_
    have kb_0 : bd 0 0 (0 : Int32) := ⟨by decide, by decide⟩
    have go_ := g
    refine g_put (C := RX5) (T := TX5) (N := 9) hx hb hts (mc_ inX5) tyX5 tyX5_ok nmX5 hown hK g mq1_ kq1_ (by decide) rfl 7 (by decide) (hts _ (List.mem_cons_of_mem _ t_344)) (fun _ h9 => h9) rfl rfl (okV_i (bd_sub kb_0 (by decide))) rfl rfl (by decide) (Or.inr (Or.inl (by decide))) (fx' := [(0, 2, q2_, .ref q3_), (8, 8, q0_, .int y1_), (5, 8, q1_, .int x1_), (2, 0, a0_, .ref q0_), (2, 1, a0_, .ref q1_), (2, 2, a0_, .ref q2_), (2, 3, a0_, .ref q3_), (0, 0, q2_, .ref q0_), (0, 1, q2_, .ref q1_), (5, 0, q1_, .ref q3_), (5, 1, q1_, .ref q7_), (7, 13, q3_, .int y0_)]) rfl dX2_readAsked_28 (fun f H locs hM_25 g => ?_)
    have hG_26 := eOK.frame hM_25 go_.2.2.2.1 mq2_ kq2_ (by decide) (by decide) hG_12
    have hG_27 := cOK.frame hM_25 go_.2.2.2.1 mq3_ kq3_ (by decide) (by decide) hG_13
    have hG_28 := dOK.frame hM_25 go_.2.2.2.1 mq3_ kq3_ (by decide) (by decide) hG_14
    have hG_29 := jS.frame hM_25 go_.2.2.2.1 mq3_ kq3_ (by decide) (by decide) hs_24
    refine lv_aload_n hx hb dX2_readAsked_31 rfl (lv_at hl 0 rfl) ?_
    refine g_getk (C := RX2) (T := TX2) (N := 16) hx hb hts (mc_ inX2) hown hK g rfl 1 (by decide) rfl (hts _ (List.mem_cons_of_mem _ t_417)) (fun _ h9 => h9) 5 rfl dX2_readAsked_32 ?_
    refine lv_iconst (v := 0) hx hb dX2_readAsked_35 (by decide) ?_
    have go_ := g
    refine g_put (C := RX5) (T := TX5) (N := 9) hx hb hts (mc_ inX5) tyX5 tyX5_ok nmX5 hown hK g mq1_ kq1_ (by decide) rfl 8 (by decide) (hts _ (List.mem_cons_of_mem _ t_347)) (fun _ h9 => h9) rfl rfl (okV_i (bd_sub kb_0 (by decide))) rfl rfl (by decide) (Or.inr (Or.inl (by decide))) (fx' := [(5, 7, q1_, .int 0), (0, 2, q2_, .ref q3_), (8, 8, q0_, .int y1_), (2, 0, a0_, .ref q0_), (2, 1, a0_, .ref q1_), (2, 2, a0_, .ref q2_), (2, 3, a0_, .ref q3_), (0, 0, q2_, .ref q0_), (0, 1, q2_, .ref q1_), (5, 0, q1_, .ref q3_), (5, 1, q1_, .ref q7_), (7, 13, q3_, .int y0_)]) rfl dX2_readAsked_36 (fun f H locs hM_30 g => ?_)
    have hG_31 := eOK.frame hM_30 go_.2.2.2.1 mq2_ kq2_ (by decide) (by decide) hG_26
    have hG_32 := cOK.frame hM_30 go_.2.2.2.1 mq3_ kq3_ (by decide) (by decide) hG_27
    have hG_33 := dOK.frame hM_30 go_.2.2.2.1 mq3_ kq3_ (by decide) (by decide) hG_28
    have hG_34 := jS.frame hM_30 go_.2.2.2.1 mq3_ kq3_ (by decide) (by decide) hG_29
    refine lv_aload_n hx hb dX2_readAsked_39 rfl (lv_at hl 0 rfl) ?_
    refine g_getk (C := RX2) (T := TX2) (N := 16) hx hb hts (mc_ inX2) hown hK g rfl 3 (by decide) rfl (hts _ (List.mem_cons_of_mem _ t_419)) (fun _ h9 => h9) 7 rfl dX2_readAsked_40 ?_
    refine lv_bipush (v := 26) hx hb dX2_readAsked_43 (by decide) ?_
    refine lv_iconst (v := 0) hx hb dX2_readAsked_45 (by decide) ?_
    obtain ⟨a_35, ma_35, ka_35, g⟩ := g_factr g mq3_ kq3_ (by decide) 4 rfl
    obtain ⟨a_36, ma_36, ka_36, g⟩ := g_factr g mq3_ kq3_ (by decide) 5 rfl
    obtain ⟨x_37, bx_37, g⟩ := g_facti g mq3_ kq3_ (by decide) 6 rfl
    have kb_26 : bd 26 26 (26 : Int32) := ⟨by decide, by decide⟩
    have go_ := g
    refine g_callv (va_runV (As := [.int 26, .int 0]) (rest := []) ⟨hx, hb, hml, hown, hts⟩ (r_X7_emitN l dC dI L kd tys f H.size g.2.2.2.1 q3_ mq3_ kq3_ a_35 ma_35 ka_35 a_36 ma_36 ka_36 x_37 bx_37 T_ hG_33 (26 : Int32) (0 : Int32) (fun j9 => jOK f q3_ j9) hG_32 (fun _ h9 => h9) ⟨(fun h9 => ⟨(by have h9_0 := bx1_; unfold bd at h9_0; have h9_1 := bx_37; unfold bd at h9_1; have h9_2 := by0_; unfold bd at h9_2; have h9_3 := by1_; unfold bd at h9_3; have h8_0 := kb_0; unfold bd at h8_0; have h8_1 := kb_1; unfold bd at h8_1; have h8_2 := kb_26; unfold bd at h8_2; omega), (by have h9_0 := bx1_; unfold bd at h9_0; have h9_1 := bx_37; unfold bd at h9_1; have h9_2 := by0_; unfold bd at h9_2; have h9_3 := by1_; unfold bd at h9_3; have h8_0 := kb_0; unfold bd at h8_0; have h8_1 := kb_1; unfold bd at h8_1; have h8_2 := kb_26; unfold bd at h8_2; omega)⟩), (fun h9 => ⟨(by have h9_0 := bx1_; unfold bd at h9_0; have h9_1 := bx_37; unfold bd at h9_1; have h9_2 := by0_; unfold bd at h9_2; have h9_3 := by1_; unfold bd at h9_3; have h8_0 := kb_0; unfold bd at h8_0; have h8_1 := kb_1; unfold bd at h8_1; have h8_2 := kb_26; unfold bd at h8_2; omega), (by have h9_0 := bx1_; unfold bd at h9_0; have h9_1 := bx_37; unfold bd at h9_1; have h9_2 := by0_; unfold bd at h9_2; have h9_3 := by1_; unfold bd at h9_3; have h8_0 := kb_0; unfold bd at h8_0; have h8_1 := kb_1; unfold bd at h8_1; have h8_2 := kb_26; unfold bd at h8_2; omega)⟩), (fun h9 => ⟨(by have h9_0 := bx1_; unfold bd at h9_0; have h9_1 := bx_37; unfold bd at h9_1; have h9_2 := by0_; unfold bd at h9_2; have h9_3 := by1_; unfold bd at h9_3; have h8_0 := kb_0; unfold bd at h8_0; have h8_1 := kb_1; unfold bd at h8_1; have h8_2 := kb_26; unfold bd at h8_2; omega), (by have h9_0 := bx1_; unfold bd at h9_0; have h9_1 := bx_37; unfold bd at h9_1; have h9_2 := by0_; unfold bd at h9_2; have h9_3 := by1_; unfold bd at h9_3; have h8_0 := kb_0; unfold bd at h8_0; have h8_1 := kb_1; unfold bd at h8_1; have h8_2 := kb_26; unfold bd at h8_2; omega)⟩)⟩ (g.fcts [2, 1, 0] rfl)) (cwV 2 hts (gV_ t_1301 t_1204 t_1205 t_191 t_1206) rfl rfl rfl (by decide +kernel) ⟨(Nat.le_of_ble_eq_true rfl), (Nat.le_of_ble_eq_true rfl)⟩) (pre3V g hK mq3_ kq3_ (by decide) (q := (RX7, TX7, 19)) rfl) rfl rfl hl.1 rfl (lv_room (Nat.le_of_ble_eq_true rfl)) dX2_readAsked_46 ⟨(Nat.le_of_ble_eq_true rfl), (Nat.le_of_ble_eq_true rfl)⟩) g hK (by decide) (by decide) (fx' := [(7, 5, q3_, .ref a_36), (7, 4, q3_, .ref a_35), (5, 8, q1_, .int 0), (5, 7, q1_, .int 0), (0, 2, q2_, .ref q3_), (8, 8, q0_, .int y1_), (2, 0, a0_, .ref q0_), (2, 1, a0_, .ref q1_), (2, 2, a0_, .ref q2_), (2, 3, a0_, .ref q3_), (0, 0, q2_, .ref q0_), (0, 1, q2_, .ref q1_), (5, 0, q1_, .ref q3_), (5, 1, q1_, .ref q7_), (7, 13, q3_, .int y0_)]) rfl (fun fr_38 H locs hp hMr_38 g => ?_)
    obtain ⟨hG_39, hG_40, hG_41, hx_42, x_43, h_44, hF_45⟩ := hp
    have hG_46 := eOK.frame hMr_38 go_.2.2.2.1 mq2_ kq2_ (by decide) (by decide) hG_31
    have g := g.more hF_45
    have hs_47 := jS.mv hG_34 hG_41
    subst hQ
    exact W.vret hx hb hr (fun t ht hW => ⟨⟨_, rfl, Or.inl ⟨hG_46, hG_40, hG_39, hs_47, (g.fcts [3, 4, 5, 6] rfl)⟩, q3_of g hK ht hW⟩, g.2.2.1.F ht⟩) g.2.2.1.2.2 dX2_readAsked_49
  · have g := g.more hF_23
    refine lv_aload_n hx hb dX2_readAsked_23 rfl (lv_at hl 0 rfl) ?_
    refine g_getk (C := RX2) (T := TX2) (N := 16) hx hb hts (mc_ inX2) hown hK g rfl 1 (by decide) rfl (hts _ (List.mem_cons_of_mem _ t_417)) (fun _ h9 => h9) 6 rfl dX2_readAsked_24 ?_
    refine lv_iconst (v := 0) hx hb dX2_readAsked_27 (by decide) ?_
    have kb_0 : bd 0 0 (0 : Int32) := ⟨by decide, by decide⟩
    have go_ := g
    refine g_put (C := RX5) (T := TX5) (N := 9) hx hb hts (mc_ inX5) tyX5 tyX5_ok nmX5 hown hK g mq1_ kq1_ (by decide) rfl 7 (by decide) (hts _ (List.mem_cons_of_mem _ t_344)) (fun _ h9 => h9) rfl rfl (okV_i (bd_sub kb_0 (by decide))) rfl rfl (by decide) (Or.inr (Or.inl (by decide))) (fx' := [(8, 6, q0_, .int x_19), (8, 8, q0_, .int x_21), (0, 2, q2_, .ref q3_), (5, 8, q1_, .int x1_), (2, 0, a0_, .ref q0_), (2, 1, a0_, .ref q1_), (2, 2, a0_, .ref q2_), (2, 3, a0_, .ref q3_), (0, 0, q2_, .ref q0_), (0, 1, q2_, .ref q1_), (5, 0, q1_, .ref q3_), (5, 1, q1_, .ref q7_), (7, 13, q3_, .int y0_)]) rfl dX2_readAsked_28 (fun f H locs hM_48 g => ?_)
    have hG_49 := eOK.frame hM_48 go_.2.2.2.1 mq2_ kq2_ (by decide) (by decide) hG_17
    have hG_50 := dOK.frame hM_48 go_.2.2.2.1 mq3_ kq3_ (by decide) (by decide) hG_18
    refine lv_aload_n hx hb dX2_readAsked_31 rfl (lv_at hl 0 rfl) ?_
    refine g_getk (C := RX2) (T := TX2) (N := 16) hx hb hts (mc_ inX2) hown hK g rfl 1 (by decide) rfl (hts _ (List.mem_cons_of_mem _ t_417)) (fun _ h9 => h9) 6 rfl dX2_readAsked_32 ?_
    refine lv_iconst (v := 0) hx hb dX2_readAsked_35 (by decide) ?_
    have go_ := g
    refine g_put (C := RX5) (T := TX5) (N := 9) hx hb hts (mc_ inX5) tyX5 tyX5_ok nmX5 hown hK g mq1_ kq1_ (by decide) rfl 8 (by decide) (hts _ (List.mem_cons_of_mem _ t_347)) (fun _ h9 => h9) rfl rfl (okV_i (bd_sub kb_0 (by decide))) rfl rfl (by decide) (Or.inr (Or.inl (by decide))) (fx' := [(5, 7, q1_, .int 0), (8, 6, q0_, .int x_19), (8, 8, q0_, .int x_21), (0, 2, q2_, .ref q3_), (2, 0, a0_, .ref q0_), (2, 1, a0_, .ref q1_), (2, 2, a0_, .ref q2_), (2, 3, a0_, .ref q3_), (0, 0, q2_, .ref q0_), (0, 1, q2_, .ref q1_), (5, 0, q1_, .ref q3_), (5, 1, q1_, .ref q7_), (7, 13, q3_, .int y0_)]) rfl dX2_readAsked_36 (fun f H locs hM_51 g => ?_)
    have hG_52 := eOK.frame hM_51 go_.2.2.2.1 mq2_ kq2_ (by decide) (by decide) hG_49
    have hG_53 := dOK.frame hM_51 go_.2.2.2.1 mq3_ kq3_ (by decide) (by decide) hG_50
    refine lv_aload_n hx hb dX2_readAsked_39 rfl (lv_at hl 0 rfl) ?_
    refine g_getk (C := RX2) (T := TX2) (N := 16) hx hb hts (mc_ inX2) hown hK g rfl 3 (by decide) rfl (hts _ (List.mem_cons_of_mem _ t_419)) (fun _ h9 => h9) 8 rfl dX2_readAsked_40 ?_
    refine lv_bipush (v := 26) hx hb dX2_readAsked_43 (by decide) ?_
    refine lv_iconst (v := 0) hx hb dX2_readAsked_45 (by decide) ?_
    obtain ⟨a_54, ma_54, ka_54, g⟩ := g_factr g mq3_ kq3_ (by decide) 4 rfl
    obtain ⟨a_55, ma_55, ka_55, g⟩ := g_factr g mq3_ kq3_ (by decide) 5 rfl
    obtain ⟨x_56, bx_56, g⟩ := g_facti g mq3_ kq3_ (by decide) 6 rfl
    have go_ := g
    refine g_callv (va_runV (As := [.int 26, .int 0]) (rest := []) ⟨hx, hb, hml, hown, hts⟩ (r_X7_emitF l dC dI L kd tys f H.size g.2.2.2.1 q3_ mq3_ kq3_ a_54 ma_54 ka_54 a_55 ma_55 ka_55 x_56 bx_56 T_ hG_53 (26 : Int32) (0 : Int32) (g.fcts [2, 1, 0] rfl)) (cwV 2 hts (gV_ t_1301 t_1204 t_1205 t_191 t_1206) rfl rfl rfl (by decide +kernel) ⟨(Nat.le_of_ble_eq_true rfl), (Nat.le_of_ble_eq_true rfl)⟩) (pre3V g hK mq3_ kq3_ (by decide) (q := (RX7, TX7, 19)) rfl) rfl rfl hl.1 rfl (lv_room (Nat.le_of_ble_eq_true rfl)) dX2_readAsked_46 ⟨(Nat.le_of_ble_eq_true rfl), (Nat.le_of_ble_eq_true rfl)⟩) g hK (by decide) (by decide) (fx' := [(7, 5, q3_, .ref a_55), (7, 4, q3_, .ref a_54), (5, 8, q1_, .int 0), (5, 7, q1_, .int 0), (8, 6, q0_, .int x_19), (8, 8, q0_, .int x_21), (0, 2, q2_, .ref q3_), (2, 0, a0_, .ref q0_), (2, 1, a0_, .ref q1_), (2, 2, a0_, .ref q2_), (2, 3, a0_, .ref q3_), (0, 0, q2_, .ref q0_), (0, 1, q2_, .ref q1_), (5, 0, q1_, .ref q3_), (5, 1, q1_, .ref q7_), (7, 13, q3_, .int y0_)]) rfl (fun fr_57 H locs hp hMr_57 g => ?_)
    obtain ⟨hG_58, x_59, h_60, hF_61⟩ := hp
    have hG_62 := eOK.frame hMr_57 go_.2.2.2.1 mq2_ kq2_ (by decide) (by decide) hG_52
    have g := g.more hF_61
    subst hQ
    exact W.vret hx hb hr (fun t ht hW => ⟨⟨_, rfl, Or.inr (⟨hG_62, hG_58, x_19, h_20, x_21, h_22, (g.fcts [3, 4, 5, 6, 7] rfl)⟩), q3_of g hK ht hW⟩, g.2.2.1.F ht⟩) g.2.2.1.2.2 dX2_readAsked_49
set_option maxHeartbeats 4000000 in
set_option maxRecDepth 100000 in
theorem r_X0_read_2 (l : Launch) (dC : Nat → ClassId) (dI : Nat → Nat → Nat) (L : List Nat) (kd : Nat → Nat) (tys : List (ClassId × FieldType)) (f0 : Nat → va_E) (sz : Nat) (hWT : WT L kd tys f0) (a0_ : Nat) (ma0_ : a0_ ∈ L) (ka0_ : kd a0_ = 0) (q0_ : Nat) (mq0_ : q0_ ∈ L) (kq0_ : kd q0_ = 8) (q1_ : Nat) (mq1_ : q1_ ∈ L) (kq1_ : kd q1_ = 5) (q2_ : Nat) (mq2_ : q2_ ∈ L) (kq2_ : kd q2_ = 7) (q3_ : Nat) (mq3_ : q3_ ∈ L) (kq3_ : kd q3_ = 9) (y0_ : Int32) (by0_ : bd 1201 1201 y0_) (y1_ : Int32) (by1_ : bd 1 7 y1_) (T_ : Nat) (hGea0_ : eOK f0 a0_) (hGdq2_ : dOK L kd f0 q2_ T_) (hfx : Fs L kd f0 [(0, 0, a0_, .ref q0_), (0, 1, a0_, .ref q1_), (5, 0, q1_, .ref q2_), (5, 1, q1_, .ref q3_), (8, 6, q0_, .int y0_), (8, 8, q0_, .int y1_)]) : Met l yX0_read (.code yX0_read cX0_read 3 none :: lw_g) ({ frames := 0, cells := 0, slots := 0, locals := 0 }) (va_Pc [.ref a0_] (P3 (dC, dI) L tys f0 sz)) (va_Qv (fun (f : Nat → va_E) => (Fs L kd f [(0, 13, a0_, .int 0), (0, 12, a0_, .int 1), (0, 11, a0_, .int 0), (0, 10, a0_, .int 0), (0, 8, a0_, .int 0), (0, 2, a0_, .ref q2_)])) (Q3 (dC, dI) L kd tys [(0, 2), (0, 8), (0, 10), (0, 11), (0, 12), (0, 13)] [] f0 sz) (pA L sz)) 0 0 (pA L sz) := by
  refine Met.ofW (cc := cX0_read) (maxL := 3) (ret := none) (by decide) rfl ?_
  intro p e s m args below meth c s₁ B hml hv
  obtain ⟨rfl, hsz, hP, hK, hD0⟩ := hv
  have hx := B.exec
  have hb := B.bytes
  have hr := B.returns
  have hts := atoms_spec (ws := (.code yX0_read cX0_read 3 none :: lw_g)) B.pre
  have hown : s.vm.findClass RX0 = some m.cls := findClass_of_methodNamed B.named
  have hlocks := B.notSynchronized
  subst hsz
  have g : G3 (dC, dI) L kd tys s f0 [(0, 2), (0, 8), (0, 10), (0, 11), (0, 12), (0, 13)] [] f0 s.heap [] [(0, 0, a0_, .ref q0_), (0, 1, a0_, .ref q1_), (5, 0, q1_, .ref q2_), (5, 1, q1_, .ref q3_), (8, 6, q0_, .int y0_), (8, 8, q0_, .int y1_)] := G3.start hP hD0 hWT hfx
  have hl := lv_entry ([.ref a0_]) (n := 3) (Nat.le_of_ble_eq_true rfl)
  rw [lg_entry_eq]
  generalize (lg_sl ([.ref a0_]) ++ List.replicate (3 - (lg_sl ([.ref a0_])).length) Slot.unset).toArray = ls at hl ⊢
  have hl : lv_has ls 3 [(0, .ref a0_)] := hl
  refine W_q (fun Q hQ => ?_)
  refine lv_aload_n hx hb dX0_read_0 rfl (lv_at hl 0 rfl) ?_
  refine lv_aload_n hx hb dX0_read_1 rfl (lv_at hl 0 rfl) ?_
  refine g_getk (C := RX0) (T := TX0) (N := 14) hx hb hts (mc_ inX0) hown hK g rfl 1 (by decide) rfl (hts _ (List.mem_cons_of_mem _ t_374)) (fun _ h9 => h9) 1 rfl dX0_read_2 ?_
  refine g_getk (C := RX5) (T := TX5) (N := 9) hx hb hts (mc_ inX5) hown hK g rfl 0 (by decide) rfl (hts _ (List.mem_cons_of_mem _ t_328)) (fun _ h9 => h9) 2 rfl dX0_read_5 ?_
  have go_ := g
  refine g_put (C := RX0) (T := TX0) (N := 14) hx hb hts (mc_ inX0) tyX0 tyX0_ok nmX0 hown hK g ma0_ ka0_ (by decide) rfl 2 (by decide) (hts _ (List.mem_cons_of_mem _ t_375)) (fun _ h9 => h9) rfl rfl (okV_n mq2_ kq2_ (by decide)) rfl rfl (by decide) (Or.inr (Or.inl (by decide))) (fx' := [(0, 0, a0_, .ref q0_), (0, 1, a0_, .ref q1_), (5, 0, q1_, .ref q2_), (5, 1, q1_, .ref q3_), (8, 6, q0_, .int y0_), (8, 8, q0_, .int y1_)]) rfl dX0_read_8 (fun f H locs hM_1 g => ?_)
  have hG_2 := eOK.frame hM_1 go_.2.2.2.1 ma0_ ka0_ (by decide) (by decide) hGea0_
  have hG_3 := dOK.frame hM_1 go_.2.2.2.1 mq2_ kq2_ (by decide) (by decide) hGdq2_
  refine lv_aload_n hx hb dX0_read_11 rfl (lv_at hl 0 rfl) ?_
  refine lv_iconst (v := 0) hx hb dX0_read_12 (by decide) ?_
  have kb_0 : bd 0 0 (0 : Int32) := ⟨by decide, by decide⟩
  have go_ := g
  refine g_put (C := RX0) (T := TX0) (N := 14) hx hb hts (mc_ inX0) tyX0 tyX0_ok nmX0 hown hK g ma0_ ka0_ (by decide) rfl 8 (by decide) (hts _ (List.mem_cons_of_mem _ t_381)) (fun _ h9 => h9) rfl rfl (okV_i (bd_sub kb_0 (by decide))) rfl rfl (by decide) (Or.inr (Or.inl (by decide))) (fx' := [(0, 2, a0_, .ref q2_), (0, 0, a0_, .ref q0_), (0, 1, a0_, .ref q1_), (5, 0, q1_, .ref q2_), (5, 1, q1_, .ref q3_), (8, 6, q0_, .int y0_), (8, 8, q0_, .int y1_)]) rfl dX0_read_13 (fun f H locs hM_4 g => ?_)
  have hG_5 := eOK.frame hM_4 go_.2.2.2.1 ma0_ ka0_ (by decide) (by decide) hG_2
  have hG_6 := dOK.frame hM_4 go_.2.2.2.1 mq2_ kq2_ (by decide) (by decide) hG_3
  refine lv_aload_n hx hb dX0_read_16 rfl (lv_at hl 0 rfl) ?_
  refine lv_iconst (v := 0) hx hb dX0_read_17 (by decide) ?_
  have go_ := g
  refine g_put (C := RX0) (T := TX0) (N := 14) hx hb hts (mc_ inX0) tyX0 tyX0_ok nmX0 hown hK g ma0_ ka0_ (by decide) rfl 10 (by decide) (hts _ (List.mem_cons_of_mem _ t_383)) (fun _ h9 => h9) rfl rfl (okV_i (bd_sub kb_0 (by decide))) rfl rfl (by decide) (Or.inr (Or.inl (by decide))) (fx' := [(0, 8, a0_, .int 0), (0, 2, a0_, .ref q2_), (0, 0, a0_, .ref q0_), (0, 1, a0_, .ref q1_), (5, 0, q1_, .ref q2_), (5, 1, q1_, .ref q3_), (8, 6, q0_, .int y0_), (8, 8, q0_, .int y1_)]) rfl dX0_read_18 (fun f H locs hM_7 g => ?_)
  have hG_8 := eOK.frame hM_7 go_.2.2.2.1 ma0_ ka0_ (by decide) (by decide) hG_5
  have hG_9 := dOK.frame hM_7 go_.2.2.2.1 mq2_ kq2_ (by decide) (by decide) hG_6
  refine lv_aload_n hx hb dX0_read_21 rfl (lv_at hl 0 rfl) ?_
  refine lv_iconst (v := 0) hx hb dX0_read_22 (by decide) ?_
  have go_ := g
  refine g_put (C := RX0) (T := TX0) (N := 14) hx hb hts (mc_ inX0) tyX0 tyX0_ok nmX0 hown hK g ma0_ ka0_ (by decide) rfl 11 (by decide) (hts _ (List.mem_cons_of_mem _ t_384)) (fun _ h9 => h9) rfl rfl (okV_i (bd_sub kb_0 (by decide))) rfl rfl (by decide) (Or.inr (Or.inl (by decide))) (fx' := [(0, 10, a0_, .int 0), (0, 8, a0_, .int 0), (0, 2, a0_, .ref q2_), (0, 0, a0_, .ref q0_), (0, 1, a0_, .ref q1_), (5, 0, q1_, .ref q2_), (5, 1, q1_, .ref q3_), (8, 6, q0_, .int y0_), (8, 8, q0_, .int y1_)]) rfl dX0_read_23 (fun f H locs hM_10 g => ?_)
  have hG_11 := eOK.frame hM_10 go_.2.2.2.1 ma0_ ka0_ (by decide) (by decide) hG_8
  have hG_12 := dOK.frame hM_10 go_.2.2.2.1 mq2_ kq2_ (by decide) (by decide) hG_9
  refine lv_aload_n hx hb dX0_read_26 rfl (lv_at hl 0 rfl) ?_
  refine lv_iconst (v := 1) hx hb dX0_read_27 (by decide) ?_
  have kb_1 : bd 1 1 (1 : Int32) := ⟨by decide, by decide⟩
  have go_ := g
  refine g_put (C := RX0) (T := TX0) (N := 14) hx hb hts (mc_ inX0) tyX0 tyX0_ok nmX0 hown hK g ma0_ ka0_ (by decide) rfl 12 (by decide) (hts _ (List.mem_cons_of_mem _ t_385)) (fun _ h9 => h9) rfl rfl (okV_i (bd_sub kb_1 (by decide))) rfl rfl (by decide) (Or.inr (Or.inl (by decide))) (fx' := [(0, 11, a0_, .int 0), (0, 10, a0_, .int 0), (0, 8, a0_, .int 0), (0, 2, a0_, .ref q2_), (0, 0, a0_, .ref q0_), (0, 1, a0_, .ref q1_), (5, 0, q1_, .ref q2_), (5, 1, q1_, .ref q3_), (8, 6, q0_, .int y0_), (8, 8, q0_, .int y1_)]) rfl dX0_read_28 (fun f H locs hM_13 g => ?_)
  have hG_14 := eOK.frame hM_13 go_.2.2.2.1 ma0_ ka0_ (by decide) (by decide) hG_11
  have hG_15 := dOK.frame hM_13 go_.2.2.2.1 mq2_ kq2_ (by decide) (by decide) hG_12
  refine lv_aload_n hx hb dX0_read_31 rfl (lv_at hl 0 rfl) ?_
  refine lv_iconst (v := 0) hx hb dX0_read_32 (by decide) ?_
  have go_ := g
  refine g_put (C := RX0) (T := TX0) (N := 14) hx hb hts (mc_ inX0) tyX0 tyX0_ok nmX0 hown hK g ma0_ ka0_ (by decide) rfl 13 (by decide) (hts _ (List.mem_cons_of_mem _ t_386)) (fun _ h9 => h9) rfl rfl (okV_i (bd_sub kb_0 (by decide))) rfl rfl (by decide) (Or.inr (Or.inl (by decide))) (fx' := [(0, 12, a0_, .int 1), (0, 11, a0_, .int 0), (0, 10, a0_, .int 0), (0, 8, a0_, .int 0), (0, 2, a0_, .ref q2_), (0, 0, a0_, .ref q0_), (0, 1, a0_, .ref q1_), (5, 0, q1_, .ref q2_), (5, 1, q1_, .ref q3_), (8, 6, q0_, .int y0_), (8, 8, q0_, .int y1_)]) rfl dX0_read_33 (fun f H locs hM_16 g => ?_)
  have hG_17 := eOK.frame hM_16 go_.2.2.2.1 ma0_ ka0_ (by decide) (by decide) hG_14
  have hG_18 := dOK.frame hM_16 go_.2.2.2.1 mq2_ kq2_ (by decide) (by decide) hG_15
  refine lv_iconst (v := 0) hx hb dX0_read_36 (by decide) ?_
  refine lv_istore_n (lv' := [(1, .int 0), (0, .ref a0_)]) hx hb dX0_read_37 rfl hl (by decide) rfl (fun ls hl => ?_)
  refine lv_iload_n hx hb dX0_read_38 rfl (lv_at hl 0 rfl) ?_
  refine lv_sipush (v := 2400) hx hb dX0_read_39 (by decide) ?_
  refine lv_icmp_gt (tgt := 228) hx hb dX0_read_42 (by decide) (fun c_ => absurd c_ (by decide)) (fun c_ => ?_)
  refine lv_aload_n hx hb dX0_read_45 rfl (lv_at hl 1 rfl) ?_
  refine g_getk (C := RX0) (T := TX0) (N := 14) hx hb hts (mc_ inX0) hown hK g rfl 13 (by decide) rfl (hts _ (List.mem_cons_of_mem _ t_386)) (fun _ h9 => h9) 0 rfl dX0_read_46 ?_
  refine lv_if_ne (tgt := 228) hx hb dX0_read_49 (by decide) (fun c_ => absurd c_ (by decide)) (fun c_ => ?_)
  refine lv_aload_n hx hb dX0_read_52 rfl (lv_at hl 1 rfl) ?_
  refine g_getk (C := RX0) (T := TX0) (N := 14) hx hb hts (mc_ inX0) hown hK g rfl 0 (by decide) rfl (hts _ (List.mem_cons_of_mem _ t_373)) (fun _ h9 => h9) 6 rfl dX0_read_53 ?_
  refine g_getk (C := RX8) (T := TX8) (N := 10) hx hb hts (mc_ inX8) hown hK g rfl 8 (by decide) rfl (hts _ (List.mem_cons_of_mem _ t_293)) (fun _ h9 => h9) 11 rfl dX0_read_56 ?_
  refine lv_if_ne (tgt := 228) hx hb dX0_read_59 (by decide) (fun c_19 => ?_) (fun c_19 => ?_)
  · have fc_19 := neq_f c_19
    subst hQ
    exact W.vret hx hb hr (fun t ht hW => ⟨⟨_, rfl, (g.fcts [0, 1, 2, 3, 4, 5] rfl), q3_of g hK ht hW⟩, g.2.2.1.F ht⟩) g.2.2.1.2.2 dX0_read_228
  · have fc_19 := eq_f c_19
    have b_20 : bd 1 0 y1_ := eqX fc_19 by1_ kb_0 (by decide)
    exact bd_no b_20 (by decide)
set_option maxHeartbeats 4000000 in
set_option maxRecDepth 100000 in
theorem r_X2_readAsked_2 (l : Launch) (dC : Nat → ClassId) (dI : Nat → Nat → Nat) (L : List Nat) (kd : Nat → Nat) (tys : List (ClassId × FieldType)) (f0 : Nat → va_E) (sz : Nat) (hWT : WT L kd tys f0) (a0_ : Nat) (ma0_ : a0_ ∈ L) (ka0_ : kd a0_ = 2) (x1_ : Int32) (bx1_ : bd 0 0 x1_) (q0_ : Nat) (mq0_ : q0_ ∈ L) (kq0_ : kd q0_ = 8) (q1_ : Nat) (mq1_ : q1_ ∈ L) (kq1_ : kd q1_ = 5) (q2_ : Nat) (mq2_ : q2_ ∈ L) (kq2_ : kd q2_ = 0) (q3_ : Nat) (mq3_ : q3_ ∈ L) (kq3_ : kd q3_ = 7) (q7_ : Nat) (mq7_ : q7_ ∈ L) (kq7_ : kd q7_ = 9) (y0_ : Int32) (by0_ : bd 1 500 y0_) (y1_ : Int32) (by1_ : bd 1201 1201 y1_) (y2_ : Int32) (by2_ : bd 1 7 y2_) (T_ : Nat) (hGeq2_ : eOK f0 q2_) (hGdq3_ : dOK L kd f0 q3_ T_) (hfx : Fs L kd f0 [(2, 0, a0_, .ref q0_), (2, 1, a0_, .ref q1_), (2, 2, a0_, .ref q2_), (2, 3, a0_, .ref q3_), (0, 0, q2_, .ref q0_), (0, 1, q2_, .ref q1_), (5, 0, q1_, .ref q3_), (5, 1, q1_, .ref q7_), (7, 13, q3_, .int y0_), (8, 6, q0_, .int y1_), (8, 8, q0_, .int y2_)]) : Met l yX2_readAsked (.code yX2_readAsked cX2_readAsked 2 none :: lw_g) ({ frames := 1, cells := 0, slots := 0, locals := 22 }) (va_Pc [.ref a0_, .int x1_] (P3 (dC, dI) L tys f0 sz)) (va_Qv (fun (f : Nat → va_E) => (dOK L kd f q3_ T_ ∧ Fs L kd f [(5, 8, q1_, .int 0), (5, 7, q1_, .int 0), (0, 13, q2_, .int 0), (0, 12, q2_, .int 1), (0, 11, q2_, .int 0), (0, 10, q2_, .int 0), (0, 8, q2_, .int 0), (0, 2, q2_, .ref q3_)])) (Q3 (dC, dI) L kd tys [(0, 2), (0, 8), (0, 10), (0, 11), (0, 12), (0, 13), (5, 7), (5, 8), (7, 6)] [138, 139] f0 sz) (pA L sz)) 0 0 (pA L sz) := by
  refine Met.ofW (cc := cX2_readAsked) (maxL := 2) (ret := none) (by decide) rfl ?_
  intro p e s m args below meth c s₁ B hml hv
  obtain ⟨rfl, hsz, hP, hK, hD0⟩ := hv
  have hx := B.exec
  have hb := B.bytes
  have hr := B.returns
  have hts := atoms_spec (ws := (.code yX2_readAsked cX2_readAsked 2 none :: lw_g)) B.pre
  have hown : s.vm.findClass RX2 = some m.cls := findClass_of_methodNamed B.named
  have hlocks := B.notSynchronized
  subst hsz
  have g : G3 (dC, dI) L kd tys s f0 [(0, 2), (0, 8), (0, 10), (0, 11), (0, 12), (0, 13), (5, 7), (5, 8), (7, 6)] [138, 139] f0 s.heap [] [(2, 0, a0_, .ref q0_), (2, 1, a0_, .ref q1_), (2, 2, a0_, .ref q2_), (2, 3, a0_, .ref q3_), (0, 0, q2_, .ref q0_), (0, 1, q2_, .ref q1_), (5, 0, q1_, .ref q3_), (5, 1, q1_, .ref q7_), (7, 13, q3_, .int y0_), (8, 6, q0_, .int y1_), (8, 8, q0_, .int y2_)] := G3.start hP hD0 hWT hfx
  have hl := lv_entry ([.ref a0_, .int x1_]) (n := 2) (Nat.le_of_ble_eq_true rfl)
  rw [lg_entry_eq]
  generalize (lg_sl ([.ref a0_, .int x1_]) ++ List.replicate (2 - (lg_sl ([.ref a0_, .int x1_])).length) Slot.unset).toArray = ls at hl ⊢
  have hl : lv_has ls 2 [(0, .ref a0_), (1, .int x1_)] := hl
  refine W_q (fun Q hQ => ?_)
  refine lv_aload_n hx hb dX2_readAsked_0 rfl (lv_at hl 0 rfl) ?_
  refine g_getk (C := RX2) (T := TX2) (N := 16) hx hb hts (mc_ inX2) hown hK g rfl 1 (by decide) rfl (hts _ (List.mem_cons_of_mem _ t_417)) (fun _ h9 => h9) 1 rfl dX2_readAsked_1 ?_
  refine lv_iconst (v := 1) hx hb dX2_readAsked_4 (by decide) ?_
  have kb_1 : bd 1 1 (1 : Int32) := ⟨by decide, by decide⟩
  have go_ := g
  refine g_put (C := RX5) (T := TX5) (N := 9) hx hb hts (mc_ inX5) tyX5 tyX5_ok nmX5 hown hK g mq1_ kq1_ (by decide) rfl 7 (by decide) (hts _ (List.mem_cons_of_mem _ t_344)) (fun _ h9 => h9) rfl rfl (okV_i (bd_sub kb_1 (by decide))) rfl rfl (by decide) (Or.inr (Or.inl (by decide))) (fx' := [(2, 0, a0_, .ref q0_), (2, 1, a0_, .ref q1_), (2, 2, a0_, .ref q2_), (2, 3, a0_, .ref q3_), (0, 0, q2_, .ref q0_), (0, 1, q2_, .ref q1_), (5, 0, q1_, .ref q3_), (5, 1, q1_, .ref q7_), (7, 13, q3_, .int y0_), (8, 6, q0_, .int y1_), (8, 8, q0_, .int y2_)]) rfl dX2_readAsked_5 (fun f H locs hM_1 g => ?_)
  have hG_2 := eOK.frame hM_1 go_.2.2.2.1 mq2_ kq2_ (by decide) (by decide) hGeq2_
  have hG_3 := dOK.frame hM_1 go_.2.2.2.1 mq3_ kq3_ (by decide) (by decide) hGdq3_
  refine lv_aload_n hx hb dX2_readAsked_8 rfl (lv_at hl 0 rfl) ?_
  refine g_getk (C := RX2) (T := TX2) (N := 16) hx hb hts (mc_ inX2) hown hK g rfl 1 (by decide) rfl (hts _ (List.mem_cons_of_mem _ t_417)) (fun _ h9 => h9) 2 rfl dX2_readAsked_9 ?_
  refine lv_iload_n hx hb dX2_readAsked_12 rfl (lv_at hl 1 rfl) ?_
  have go_ := g
  refine g_put (C := RX5) (T := TX5) (N := 9) hx hb hts (mc_ inX5) tyX5 tyX5_ok nmX5 hown hK g mq1_ kq1_ (by decide) rfl 8 (by decide) (hts _ (List.mem_cons_of_mem _ t_347)) (fun _ h9 => h9) rfl rfl (okV_i (bd_sub bx1_ (by decide))) (nar_z (bd_sub bx1_ (by decide) : bd 0 1 _).1 (bd_sub bx1_ (by decide) : bd 0 1 _).2) (fit_z (bd_sub bx1_ (by decide) : bd 0 1 _)) (by decide) (Or.inr (Or.inl (by decide))) (fx' := [(5, 7, q1_, .int 1), (2, 0, a0_, .ref q0_), (2, 1, a0_, .ref q1_), (2, 2, a0_, .ref q2_), (2, 3, a0_, .ref q3_), (0, 0, q2_, .ref q0_), (0, 1, q2_, .ref q1_), (5, 0, q1_, .ref q3_), (5, 1, q1_, .ref q7_), (7, 13, q3_, .int y0_), (8, 6, q0_, .int y1_), (8, 8, q0_, .int y2_)]) rfl dX2_readAsked_13 (fun f H locs hM_4 g => ?_)
  have hG_5 := eOK.frame hM_4 go_.2.2.2.1 mq2_ kq2_ (by decide) (by decide) hG_2
  have hG_6 := dOK.frame hM_4 go_.2.2.2.1 mq3_ kq3_ (by decide) (by decide) hG_3
  refine lv_aload_n hx hb dX2_readAsked_16 rfl (lv_at hl 0 rfl) ?_
  refine g_getk (C := RX2) (T := TX2) (N := 16) hx hb hts (mc_ inX2) hown hK g rfl 2 (by decide) rfl (hts _ (List.mem_cons_of_mem _ t_418)) (fun _ h9 => h9) 4 rfl dX2_readAsked_17 ?_
  have go_ := g
  refine g_callv (va_runV (As := []) (rest := []) ⟨hx, hb, hml, hown, hts⟩ (r_X0_read_2 l dC dI L kd tys f H.size g.2.2.2.1 q2_ mq2_ kq2_ q0_ mq0_ kq0_ q1_ mq1_ kq1_ q3_ mq3_ kq3_ q7_ mq7_ kq7_ y1_ by1_ y2_ by2_ T_ hG_5 hG_6 (g.fcts [6, 7, 8, 9, 11, 12] rfl)) (cwV 0 hts (gV_ t_1182 t_1183 t_1184 t_190 t_1185) rfl rfl rfl (by decide +kernel) ⟨(Nat.le_of_ble_eq_true rfl), (Nat.le_of_ble_eq_true rfl)⟩) (pre3V g hK mq2_ kq2_ (by decide) (q := (RX0, TX0, 14)) rfl) rfl rfl hl.1 rfl (lv_room (Nat.le_of_ble_eq_true rfl)) dX2_readAsked_20 ⟨(Nat.le_of_ble_eq_true rfl), (Nat.le_of_ble_eq_true rfl)⟩) g hK (by decide) (by decide) (fx' := [(5, 8, q1_, .int x1_), (5, 7, q1_, .int 1), (2, 0, a0_, .ref q0_), (2, 1, a0_, .ref q1_), (2, 2, a0_, .ref q2_), (2, 3, a0_, .ref q3_), (0, 0, q2_, .ref q0_), (0, 1, q2_, .ref q1_), (5, 0, q1_, .ref q3_), (5, 1, q1_, .ref q7_), (7, 13, q3_, .int y0_), (8, 6, q0_, .int y1_), (8, 8, q0_, .int y2_)]) rfl (fun fr_7 H locs hp hMr_7 g => ?_)
  have hF_8 := hp
  have hG_9 := eOK.frame hMr_7 go_.2.2.2.1 mq2_ kq2_ (by decide) (by decide) hG_5
  have hG_10 := dOK.frame hMr_7 go_.2.2.2.1 mq3_ kq3_ (by decide) (by decide) hG_6
  have g := g.more hF_8
  refine lv_aload_n hx hb dX2_readAsked_23 rfl (lv_at hl 0 rfl) ?_
  refine g_getk (C := RX2) (T := TX2) (N := 16) hx hb hts (mc_ inX2) hown hK g rfl 1 (by decide) rfl (hts _ (List.mem_cons_of_mem _ t_417)) (fun _ h9 => h9) 9 rfl dX2_readAsked_24 ?_
  refine lv_iconst (v := 0) hx hb dX2_readAsked_27 (by decide) ?_
  have kb_0 : bd 0 0 (0 : Int32) := ⟨by decide, by decide⟩
  have go_ := g
  refine g_put (C := RX5) (T := TX5) (N := 9) hx hb hts (mc_ inX5) tyX5 tyX5_ok nmX5 hown hK g mq1_ kq1_ (by decide) rfl 7 (by decide) (hts _ (List.mem_cons_of_mem _ t_344)) (fun _ h9 => h9) rfl rfl (okV_i (bd_sub kb_0 (by decide))) rfl rfl (by decide) (Or.inr (Or.inl (by decide))) (fx' := [(0, 13, q2_, .int 0), (0, 12, q2_, .int 1), (0, 11, q2_, .int 0), (0, 10, q2_, .int 0), (0, 8, q2_, .int 0), (0, 2, q2_, .ref q3_), (5, 8, q1_, .int x1_), (2, 0, a0_, .ref q0_), (2, 1, a0_, .ref q1_), (2, 2, a0_, .ref q2_), (2, 3, a0_, .ref q3_), (0, 0, q2_, .ref q0_), (0, 1, q2_, .ref q1_), (5, 0, q1_, .ref q3_), (5, 1, q1_, .ref q7_), (7, 13, q3_, .int y0_), (8, 6, q0_, .int y1_), (8, 8, q0_, .int y2_)]) rfl dX2_readAsked_28 (fun f H locs hM_11 g => ?_)
  have hG_12 := eOK.frame hM_11 go_.2.2.2.1 mq2_ kq2_ (by decide) (by decide) hG_9
  have hG_13 := dOK.frame hM_11 go_.2.2.2.1 mq3_ kq3_ (by decide) (by decide) hG_10
  refine lv_aload_n hx hb dX2_readAsked_31 rfl (lv_at hl 0 rfl) ?_
  refine g_getk (C := RX2) (T := TX2) (N := 16) hx hb hts (mc_ inX2) hown hK g rfl 1 (by decide) rfl (hts _ (List.mem_cons_of_mem _ t_417)) (fun _ h9 => h9) 9 rfl dX2_readAsked_32 ?_
  refine lv_iconst (v := 0) hx hb dX2_readAsked_35 (by decide) ?_
  have go_ := g
  refine g_put (C := RX5) (T := TX5) (N := 9) hx hb hts (mc_ inX5) tyX5 tyX5_ok nmX5 hown hK g mq1_ kq1_ (by decide) rfl 8 (by decide) (hts _ (List.mem_cons_of_mem _ t_347)) (fun _ h9 => h9) rfl rfl (okV_i (bd_sub kb_0 (by decide))) rfl rfl (by decide) (Or.inr (Or.inl (by decide))) (fx' := [(5, 7, q1_, .int 0), (0, 13, q2_, .int 0), (0, 12, q2_, .int 1), (0, 11, q2_, .int 0), (0, 10, q2_, .int 0), (0, 8, q2_, .int 0), (0, 2, q2_, .ref q3_), (2, 0, a0_, .ref q0_), (2, 1, a0_, .ref q1_), (2, 2, a0_, .ref q2_), (2, 3, a0_, .ref q3_), (0, 0, q2_, .ref q0_), (0, 1, q2_, .ref q1_), (5, 0, q1_, .ref q3_), (5, 1, q1_, .ref q7_), (7, 13, q3_, .int y0_), (8, 6, q0_, .int y1_), (8, 8, q0_, .int y2_)]) rfl dX2_readAsked_36 (fun f H locs hM_14 g => ?_)
  have hG_15 := eOK.frame hM_14 go_.2.2.2.1 mq2_ kq2_ (by decide) (by decide) hG_12
  have hG_16 := dOK.frame hM_14 go_.2.2.2.1 mq3_ kq3_ (by decide) (by decide) hG_13
  refine lv_aload_n hx hb dX2_readAsked_39 rfl (lv_at hl 0 rfl) ?_
  refine g_getk (C := RX2) (T := TX2) (N := 16) hx hb hts (mc_ inX2) hown hK g rfl 3 (by decide) rfl (hts _ (List.mem_cons_of_mem _ t_419)) (fun _ h9 => h9) 11 rfl dX2_readAsked_40 ?_
  refine lv_bipush (v := 26) hx hb dX2_readAsked_43 (by decide) ?_
  refine lv_iconst (v := 0) hx hb dX2_readAsked_45 (by decide) ?_
  obtain ⟨a_17, ma_17, ka_17, g⟩ := g_factr g mq3_ kq3_ (by decide) 4 rfl
  obtain ⟨a_18, ma_18, ka_18, g⟩ := g_factr g mq3_ kq3_ (by decide) 5 rfl
  obtain ⟨x_19, bx_19, g⟩ := g_facti g mq3_ kq3_ (by decide) 6 rfl
  have go_ := g
  refine g_callv (va_runV (As := [.int 26, .int 0]) (rest := []) ⟨hx, hb, hml, hown, hts⟩ (r_X7_emitF l dC dI L kd tys f H.size g.2.2.2.1 q3_ mq3_ kq3_ a_17 ma_17 ka_17 a_18 ma_18 ka_18 x_19 bx_19 T_ hG_16 (26 : Int32) (0 : Int32) (g.fcts [2, 1, 0] rfl)) (cwV 2 hts (gV_ t_1301 t_1204 t_1205 t_191 t_1206) rfl rfl rfl (by decide +kernel) ⟨(Nat.le_of_ble_eq_true rfl), (Nat.le_of_ble_eq_true rfl)⟩) (pre3V g hK mq3_ kq3_ (by decide) (q := (RX7, TX7, 19)) rfl) rfl rfl hl.1 rfl (lv_room (Nat.le_of_ble_eq_true rfl)) dX2_readAsked_46 ⟨(Nat.le_of_ble_eq_true rfl), (Nat.le_of_ble_eq_true rfl)⟩) g hK (by decide) (by decide) (fx' := [(7, 5, q3_, .ref a_18), (7, 4, q3_, .ref a_17), (5, 8, q1_, .int 0), (5, 7, q1_, .int 0), (0, 13, q2_, .int 0), (0, 12, q2_, .int 1), (0, 11, q2_, .int 0), (0, 10, q2_, .int 0), (0, 8, q2_, .int 0), (0, 2, q2_, .ref q3_), (2, 0, a0_, .ref q0_), (2, 1, a0_, .ref q1_), (2, 2, a0_, .ref q2_), (2, 3, a0_, .ref q3_), (0, 0, q2_, .ref q0_), (0, 1, q2_, .ref q1_), (5, 0, q1_, .ref q3_), (5, 1, q1_, .ref q7_), (7, 13, q3_, .int y0_), (8, 6, q0_, .int y1_), (8, 8, q0_, .int y2_)]) rfl (fun fr_20 H locs hp hMr_20 g => ?_)
  obtain ⟨hG_21, x_22, h_23, hF_24⟩ := hp
  have hG_25 := eOK.frame hMr_20 go_.2.2.2.1 mq2_ kq2_ (by decide) (by decide) hG_15
  have g := g.more hF_24
  subst hQ
  exact W.vret hx hb hr (fun t ht hW => ⟨⟨_, rfl, ⟨hG_21, (g.fcts [3, 4, 5, 6, 7, 8, 9, 10] rfl)⟩, q3_of g hK ht hW⟩, g.2.2.1.F ht⟩) g.2.2.1.2.2 dX2_readAsked_49
set_option maxHeartbeats 4000000 in
set_option maxRecDepth 100000 in
theorem r_X2_readKept (l : Launch) (dC : Nat → ClassId) (dI : Nat → Nat → Nat) (L : List Nat) (kd : Nat → Nat) (tys : List (ClassId × FieldType)) (f0 : Nat → va_E) (sz : Nat) (hWT : WT L kd tys f0) (a0_ : Nat) (ma0_ : a0_ ∈ L) (ka0_ : kd a0_ = 2) (q0_ : Nat) (mq0_ : q0_ ∈ L) (kq0_ : kd q0_ = 8) (q1_ : Nat) (mq1_ : q1_ ∈ L) (kq1_ : kd q1_ = 5) (q2_ : Nat) (mq2_ : q2_ ∈ L) (kq2_ : kd q2_ = 0) (q3_ : Nat) (mq3_ : q3_ ∈ L) (kq3_ : kd q3_ = 7) (q4_ : Nat) (mq4_ : q4_ ∈ L) (kq4_ : kd q4_ = 9) (q8_ : Nat) (mq8_ : q8_ ∈ L) (kq8_ : kd q8_ = 9) (y0_ : Int32) (by0_ : bd 0 0 y0_) (T_ : Nat) (J_ : Int32 → Prop) (hGeq2_ : eOK f0 q2_) (hGcq3_ : cOK f0 q3_) (hGdq3_ : dOK L kd f0 q3_ T_) (hGsq3_ : jS f0 q3_ J_) (hfx : Fs L kd f0 [(2, 0, a0_, .ref q0_), (2, 1, a0_, .ref q1_), (2, 2, a0_, .ref q2_), (2, 3, a0_, .ref q3_), (2, 4, a0_, .ref q4_), (0, 0, q2_, .ref q0_), (0, 1, q2_, .ref q1_), (5, 0, q1_, .ref q3_), (5, 1, q1_, .ref q8_), (8, 8, q0_, .int y0_)]) : Met l yX2_readKept (.code yX2_readKept cX2_readKept 1 none :: lw_g) ({ frames := 5, cells := 0, slots := 0, locals := 118 }) (va_Pc [.ref a0_] (P3 (dC, dI) L tys f0 sz)) (va_Qv (fun (f : Nat → va_E) => (eOK f q2_ ∧ cOK f q3_ ∧ dOK L kd f q3_ T_ ∧ jS f q3_ J_ ∧ ∃ z0_ : Int32, bd 1 1201 z0_ ∧ ∃ z5_ : Int32, bd 1 500 z5_ ∧ ∃ z6_ : Int32, bd (-2147483647) 8 z6_ ∧ Fs L kd f [(8, 6, q0_, .int z0_), (8, 8, q0_, .int y0_), (5, 8, q1_, .int 0), (5, 7, q1_, .int 0), (0, 2, q2_, .ref q3_), (7, 13, q3_, .int z5_), (9, 11, q4_, .int z6_)]) ∨ (eOK f q2_ ∧ dOK L kd f q3_ T_ ∧ ∃ z0_ : Int32, bd 1201 1201 z0_ ∧ ∃ z1_ : Int32, bd 1 7 z1_ ∧ ∃ z5_ : Int32, bd 1 500 z5_ ∧ Fs L kd f [(8, 6, q0_, .int z0_), (8, 8, q0_, .int z1_), (5, 8, q1_, .int 0), (5, 7, q1_, .int 0), (0, 2, q2_, .ref q3_), (7, 13, q3_, .int z5_)])) (Q3 (dC, dI) L kd tys [(0, 2), (0, 8), (0, 10), (0, 11), (0, 12), (0, 13), (5, 7), (5, 8), (7, 6), (7, 13), (7, 18), (8, 6), (8, 8), (8, 9), (9, 11)] [110, 111, 112, 113, 114, 115, 138, 139, 140, 141, 142, 143, 144, 145] f0 sz) (pA L sz)) 0 0 (pA L sz) := by
  refine Met.ofW (cc := cX2_readKept) (maxL := 1) (ret := none) (by decide) rfl ?_
  intro p e s m args below meth c s₁ B hml hv
  obtain ⟨rfl, hsz, hP, hK, hD0⟩ := hv
  have hx := B.exec
  have hb := B.bytes
  have hr := B.returns
  have hts := atoms_spec (ws := (.code yX2_readKept cX2_readKept 1 none :: lw_g)) B.pre
  have hown : s.vm.findClass RX2 = some m.cls := findClass_of_methodNamed B.named
  have hlocks := B.notSynchronized
  subst hsz
  have g : G3 (dC, dI) L kd tys s f0 [(0, 2), (0, 8), (0, 10), (0, 11), (0, 12), (0, 13), (5, 7), (5, 8), (7, 6), (7, 13), (7, 18), (8, 6), (8, 8), (8, 9), (9, 11)] [110, 111, 112, 113, 114, 115, 138, 139, 140, 141, 142, 143, 144, 145] f0 s.heap [] [(2, 0, a0_, .ref q0_), (2, 1, a0_, .ref q1_), (2, 2, a0_, .ref q2_), (2, 3, a0_, .ref q3_), (2, 4, a0_, .ref q4_), (0, 0, q2_, .ref q0_), (0, 1, q2_, .ref q1_), (5, 0, q1_, .ref q3_), (5, 1, q1_, .ref q8_), (8, 8, q0_, .int y0_)] := G3.start hP hD0 hWT hfx
  have hl := lv_entry ([.ref a0_]) (n := 1) (Nat.le_of_ble_eq_true rfl)
  rw [lg_entry_eq]
  generalize (lg_sl ([.ref a0_]) ++ List.replicate (1 - (lg_sl ([.ref a0_])).length) Slot.unset).toArray = ls at hl ⊢
  have hl : lv_has ls 1 [(0, .ref a0_)] := hl
  refine W_q (fun Q hQ => ?_)
  refine lv_aload_n hx hb dX2_readKept_0 rfl (lv_at hl 0 rfl) ?_
  refine g_getk (C := RX2) (T := TX2) (N := 16) hx hb hts (mc_ inX2) hown hK g rfl 4 (by decide) rfl (hts _ (List.mem_cons_of_mem _ t_420)) (fun _ h9 => h9) 4 rfl dX2_readKept_1 ?_
  refine g_geti (C := RX9) (T := TX9) (N := 13) hx hb hts (mc_ inX9) hown hK g mq4_ kq4_ (by decide) rfl 11 (by decide) rfl (hts _ (List.mem_cons_of_mem _ t_516)) (fun _ h9 => h9) rfl dX2_readKept_4 (fun x_1 bx_1 g => ?_)
  refine lv_bipush (v := 8) hx hb dX2_readKept_7 (by decide) ?_
  have kb_8 : bd 8 8 (8 : Int32) := ⟨by decide, by decide⟩
  refine lv_icmp_lt (tgt := 27) hx hb dX2_readKept_9 (by decide) (fun c_2 => ?_) (fun c_2 => ?_)
  · have fc_2 := lt_f c_2
    have b_3 : bd (-2147483648) 7 x_1 := ltL fc_2 (bdT x_1) kb_8 (by decide)
    refine lv_aload_n hx hb dX2_readKept_27 rfl (lv_at hl 0 rfl) ?_
    refine g_getk (C := RX2) (T := TX2) (N := 16) hx hb hts (mc_ inX2) hown hK g rfl 0 (by decide) rfl (hts _ (List.mem_cons_of_mem _ t_416)) (fun _ h9 => h9) 1 rfl dX2_readKept_28 ?_
    have go_ := g
    refine g_callv (va_runV (As := []) (rest := []) ⟨hx, hb, hml, hown, hts⟩ (r_X8_next l dC dI L kd tys f0 s.heap.size g.2.2.2.1 q0_ mq0_ kq0_) (cwV 0 hts (gV_ t_1131 t_1103 t_1104 t_184 t_1105) rfl rfl rfl (by decide +kernel) ⟨(Nat.le_of_ble_eq_true rfl), (Nat.le_of_ble_eq_true rfl)⟩) (pre3V g hK mq0_ kq0_ (by decide) (q := (RX8, TX8, 10)) rfl) rfl rfl hl.1 rfl (lv_room (Nat.le_of_ble_eq_true rfl)) dX2_readKept_31 ⟨(Nat.le_of_ble_eq_true rfl), (Nat.le_of_ble_eq_true rfl)⟩) g hK (by decide) (by decide) (fx' := [(9, 11, q4_, .int x_1), (2, 0, a0_, .ref q0_), (2, 1, a0_, .ref q1_), (2, 2, a0_, .ref q2_), (2, 3, a0_, .ref q3_), (2, 4, a0_, .ref q4_), (0, 0, q2_, .ref q0_), (0, 1, q2_, .ref q1_), (5, 0, q1_, .ref q3_), (5, 1, q1_, .ref q8_), (8, 8, q0_, .int y0_)]) rfl (fun fr_4 H locs hp hMr_4 g => ?_)
    obtain ⟨x_5, h_6, hF_7⟩ := hp
    have hG_8 := eOK.frame hMr_4 go_.2.2.2.1 mq2_ kq2_ (by decide) (by decide) hGeq2_
    have hG_9 := cOK.frame hMr_4 go_.2.2.2.1 mq3_ kq3_ (by decide) (by decide) hGcq3_
    have hG_10 := dOK.frame hMr_4 go_.2.2.2.1 mq3_ kq3_ (by decide) (by decide) hGdq3_
    have hG_11 := jS.frame hMr_4 go_.2.2.2.1 mq3_ kq3_ (by decide) (by decide) hGsq3_
    have g := g.more hF_7
    refine lv_aload_n hx hb dX2_readKept_34 rfl (lv_at hl 0 rfl) ?_
    refine g_getk (C := RX2) (T := TX2) (N := 16) hx hb hts (mc_ inX2) hown hK g rfl 4 (by decide) rfl (hts _ (List.mem_cons_of_mem _ t_420)) (fun _ h9 => h9) 6 rfl dX2_readKept_35 ?_
    refine lv_dup hx hb dX2_readKept_38 rfl ?_
    refine g_getk (C := RX9) (T := TX9) (N := 13) hx hb hts (mc_ inX9) hown hK g rfl 11 (by decide) rfl (hts _ (List.mem_cons_of_mem _ t_516)) (fun _ h9 => h9) 1 rfl dX2_readKept_39 ?_
    refine lv_iconst (v := 1) hx hb dX2_readKept_42 (by decide) ?_
    have kb_1 : bd 1 1 (1 : Int32) := ⟨by decide, by decide⟩
    refine lv_iadd hx hb dX2_readKept_43 ?_
    refine lv_topi (fun y_12 ey_12 => ?_)
    have ty_12 := add_bd ey_12 b_3 kb_1 (by decide)
    have b_13 : bd (-2147483647) 8 y_12 := add_rg ty_12 b_3 kb_1 (by decide)
    have go_ := g
    refine g_put (C := RX9) (T := TX9) (N := 13) hx hb hts (mc_ inX9) tyX9 tyX9_ok nmX9 hown hK g mq4_ kq4_ (by decide) rfl 11 (by decide) (hts _ (List.mem_cons_of_mem _ t_516)) (fun _ h9 => h9) rfl rfl (okV_i (bd_sub b_13 (by decide))) rfl rfl (by decide) (Or.inr (Or.inl (by decide))) (fx' := [(8, 6, q0_, .int x_5), (2, 0, a0_, .ref q0_), (2, 1, a0_, .ref q1_), (2, 2, a0_, .ref q2_), (2, 3, a0_, .ref q3_), (2, 4, a0_, .ref q4_), (0, 0, q2_, .ref q0_), (0, 1, q2_, .ref q1_), (5, 0, q1_, .ref q3_), (5, 1, q1_, .ref q8_), (8, 8, q0_, .int y0_)]) rfl dX2_readKept_44 (fun f H locs hM_14 g => ?_)
    have hG_15 := eOK.frame hM_14 go_.2.2.2.1 mq2_ kq2_ (by decide) (by decide) hG_8
    have hG_16 := cOK.frame hM_14 go_.2.2.2.1 mq3_ kq3_ (by decide) (by decide) hG_9
    have hG_17 := dOK.frame hM_14 go_.2.2.2.1 mq3_ kq3_ (by decide) (by decide) hG_10
    have hG_18 := jS.frame hM_14 go_.2.2.2.1 mq3_ kq3_ (by decide) (by decide) hG_11
    refine lv_aload_n hx hb dX2_readKept_47 rfl (lv_at hl 0 rfl) ?_
    refine g_getk (C := RX2) (T := TX2) (N := 16) hx hb hts (mc_ inX2) hown hK g rfl 3 (by decide) rfl (hts _ (List.mem_cons_of_mem _ t_419)) (fun _ h9 => h9) 5 rfl dX2_readKept_48 ?_
    refine lv_iconst (v := 3) hx hb dX2_readKept_51 (by decide) ?_
    refine lv_aload_n hx hb dX2_readKept_52 rfl (lv_at hl 0 rfl) ?_
    refine g_getk (C := RX2) (T := TX2) (N := 16) hx hb hts (mc_ inX2) hown hK g rfl 1 (by decide) rfl (hts _ (List.mem_cons_of_mem _ t_417)) (fun _ h9 => h9) 3 rfl dX2_readKept_53 ?_
    refine g_geti (C := RX5) (T := TX5) (N := 9) hx hb hts (mc_ inX5) hown hK g mq1_ kq1_ (by decide) rfl 2 (by decide) rfl (hts _ (List.mem_cons_of_mem _ t_333)) (fun _ h9 => h9) rfl dX2_readKept_56 (fun x_19 bx_19 g => ?_)
    refine lv_aload_n hx hb dX2_readKept_59 rfl (lv_at hl 0 rfl) ?_
    refine g_getk (C := RX2) (T := TX2) (N := 16) hx hb hts (mc_ inX2) hown hK g rfl 0 (by decide) rfl (hts _ (List.mem_cons_of_mem _ t_416)) (fun _ h9 => h9) 3 rfl dX2_readKept_60 ?_
    have go_ := g
    refine g_calli (va_runV (As := []) (rest := [.int x_19, .int 3, .ref q3_]) ⟨hx, hb, hml, hown, hts⟩ (r_X8_place l dC dI L kd tys f H.size g.2.2.2.1 q0_ mq0_ kq0_) (cwV 0 hts (gV_ t_1110 t_1111 t_1112 t_184 t_1113) rfl rfl rfl (by decide +kernel) ⟨(Nat.le_of_ble_eq_true rfl), (Nat.le_of_ble_eq_true rfl)⟩) (pre3V g hK mq0_ kq0_ (by decide) (q := (RX8, TX8, 10)) rfl) rfl rfl hl.1 rfl (lv_room (Nat.le_of_ble_eq_true rfl)) dX2_readKept_63 ⟨(Nat.le_of_ble_eq_true rfl), (Nat.le_of_ble_eq_true rfl)⟩) g hK (by decide) (by decide) (fx' := [(5, 2, q1_, .int x_19), (9, 11, q4_, .int y_12), (8, 6, q0_, .int x_5), (2, 0, a0_, .ref q0_), (2, 1, a0_, .ref q1_), (2, 2, a0_, .ref q2_), (2, 3, a0_, .ref q3_), (2, 4, a0_, .ref q4_), (0, 0, q2_, .ref q0_), (0, 1, q2_, .ref q1_), (5, 0, q1_, .ref q3_), (5, 1, q1_, .ref q8_), (8, 8, q0_, .int y0_)]) rfl (fun r_20 fr_20 H locs hp hMr_20 g => ?_)
    have hG_21 := eOK.frame hMr_20 go_.2.2.2.1 mq2_ kq2_ (by decide) (by decide) hG_15
    have hG_22 := cOK.frame hMr_20 go_.2.2.2.1 mq3_ kq3_ (by decide) (by decide) hG_16
    have hG_23 := dOK.frame hMr_20 go_.2.2.2.1 mq3_ kq3_ (by decide) (by decide) hG_17
    have hG_24 := jS.frame hMr_20 go_.2.2.2.1 mq3_ kq3_ (by decide) (by decide) hG_18
    have go_ := g
    refine g_calli (va_runV (As := [.int 3, .int x_19, .int r_20]) (rest := []) ⟨hx, hb, hml, hown, hts⟩ (r_X7_addMark l dC dI L kd tys fr_20 H.size g.2.2.2.1 q3_ mq3_ kq3_ 3 x_19 r_20) (cwV 3 hts (gV_ t_1173 t_1174 t_1175 t_191 t_1176) rfl rfl rfl (by decide +kernel) ⟨(Nat.le_of_ble_eq_true rfl), (Nat.le_of_ble_eq_true rfl)⟩) (pre3V g hK mq3_ kq3_ (by decide) (q := (RX7, TX7, 19)) rfl) rfl rfl hl.1 rfl (lv_room (Nat.le_of_ble_eq_true rfl)) dX2_readKept_66 ⟨(Nat.le_of_ble_eq_true rfl), (Nat.le_of_ble_eq_true rfl)⟩) g hK (by decide) (by decide) (fx' := [(5, 2, q1_, .int x_19), (9, 11, q4_, .int y_12), (8, 6, q0_, .int x_5), (2, 0, a0_, .ref q0_), (2, 1, a0_, .ref q1_), (2, 2, a0_, .ref q2_), (2, 3, a0_, .ref q3_), (2, 4, a0_, .ref q4_), (0, 0, q2_, .ref q0_), (0, 1, q2_, .ref q1_), (5, 0, q1_, .ref q3_), (5, 1, q1_, .ref q8_), (8, 8, q0_, .int y0_)]) rfl (fun r_25 fr_25 H locs hp hMr_25 g => ?_)
    obtain ⟨h_26, x_27, h_28, hF_29⟩ := hp
    have hG_30 := eOK.frame hMr_25 go_.2.2.2.1 mq2_ kq2_ (by decide) (by decide) hG_21
    have hG_31 := cOK.frame hMr_25 go_.2.2.2.1 mq3_ kq3_ (by decide) (by decide) hG_22
    have hG_32 := dOK.frame hMr_25 go_.2.2.2.1 mq3_ kq3_ (by decide) (by decide) hG_23
    have hG_33 := jS.frame hMr_25 go_.2.2.2.1 mq3_ kq3_ (by decide) (by decide) hG_24
    have g := g.more hF_29
    refine lv_pop hx hb dX2_readKept_69 rfl ?_
    refine lv_aload_n hx hb dX2_readKept_70 rfl (lv_at hl 0 rfl) ?_
    refine lv_iconst (v := 0) hx hb dX2_readKept_71 (by decide) ?_
    have kb_0 : bd 0 0 (0 : Int32) := ⟨by decide, by decide⟩
    have go_ := g
    refine g_callv (va_runV (As := [.int 0]) (rest := []) ⟨hx, hb, hml, hown, hts⟩ (r_X2_readAsked l dC dI L kd tys fr_25 H.size g.2.2.2.1 a0_ ma0_ ka0_ 0 kb_0 q0_ mq0_ kq0_ q1_ mq1_ kq1_ q2_ mq2_ kq2_ q3_ mq3_ kq3_ q8_ mq8_ kq8_ x_27 h_28 y0_ by0_ T_ (fun j9 => jOK fr_25 q3_ j9) hG_30 hG_31 hG_32 (fun _ h9 => h9) (g.fcts [4, 5, 6, 7, 9, 10, 11, 12, 0, 13] rfl)) (cwV 1 hts (gV_ t_1178 t_1180 t_13 t_183 t_1181) rfl rfl rfl (by decide +kernel) ⟨(Nat.le_of_ble_eq_true rfl), (Nat.le_of_ble_eq_true rfl)⟩) (pre3V g hK ma0_ ka0_ (by decide) (q := (RX2, TX2, 16)) rfl) rfl rfl hl.1 rfl (lv_room (Nat.le_of_ble_eq_true rfl)) dX2_readKept_72 ⟨(Nat.le_of_ble_eq_true rfl), (Nat.le_of_ble_eq_true rfl)⟩) g hK (by decide) (by decide) (fx' := [(7, 13, q3_, .int x_27), (5, 2, q1_, .int x_19), (9, 11, q4_, .int y_12), (2, 0, a0_, .ref q0_), (2, 1, a0_, .ref q1_), (2, 2, a0_, .ref q2_), (2, 3, a0_, .ref q3_), (2, 4, a0_, .ref q4_), (0, 0, q2_, .ref q0_), (0, 1, q2_, .ref q1_), (5, 0, q1_, .ref q3_), (5, 1, q1_, .ref q8_)]) rfl (fun fr_34 H locs hp hMr_34 g => ?_)
    rcases hp with ⟨hG_35, hG_36, hG_37, hG_38, hF_39⟩ | ⟨hG_40, hG_41, x_42, h_43, x_44, h_45, hF_46⟩
    · have g := g.more hF_39
      have hs_47 := jS.mv hG_33 hG_38
      refine lv_aload_n hx hb dX2_readKept_75 rfl (lv_at hl 0 rfl) ?_
      refine g_getk (C := RX2) (T := TX2) (N := 16) hx hb hts (mc_ inX2) hown hK g rfl 0 (by decide) rfl (hts _ (List.mem_cons_of_mem _ t_416)) (fun _ h9 => h9) 7 rfl dX2_readKept_76 ?_
      refine lv_bipush (v := 59) hx hb dX2_readKept_79 (by decide) ?_
      have go_ := g
      refine g_callv (va_runV (As := [.int 59]) (rest := []) ⟨hx, hb, hml, hown, hts⟩ (r_X8_take l dC dI L kd tys fr_34 H.size g.2.2.2.1 q0_ mq0_ kq0_ 59 y0_ by0_ (g.fcts [3] rfl)) (cwV 1 hts (gV_ t_1098 t_1099 t_1100 t_184 t_1101) rfl rfl rfl (by decide +kernel) ⟨(Nat.le_of_ble_eq_true rfl), (Nat.le_of_ble_eq_true rfl)⟩) (pre3V g hK mq0_ kq0_ (by decide) (q := (RX8, TX8, 10)) rfl) rfl rfl hl.1 rfl (lv_room (Nat.le_of_ble_eq_true rfl)) dX2_readKept_81 ⟨(Nat.le_of_ble_eq_true rfl), (Nat.le_of_ble_eq_true rfl)⟩) g hK (by decide) (by decide) (fx' := [(5, 8, q1_, .int 0), (5, 7, q1_, .int 0), (0, 2, q2_, .ref q3_), (7, 13, q3_, .int x_27), (5, 2, q1_, .int x_19), (9, 11, q4_, .int y_12), (2, 0, a0_, .ref q0_), (2, 1, a0_, .ref q1_), (2, 2, a0_, .ref q2_), (2, 3, a0_, .ref q3_), (2, 4, a0_, .ref q4_), (0, 0, q2_, .ref q0_), (0, 1, q2_, .ref q1_), (5, 0, q1_, .ref q3_), (5, 1, q1_, .ref q8_)]) rfl (fun fr_48 H locs hp hMr_48 g => ?_)
      rcases hp with ⟨x_49, h_50, hF_51⟩ | ⟨x_52, h_53, hF_54⟩
      · have hG_55 := eOK.frame hMr_48 go_.2.2.2.1 mq2_ kq2_ (by decide) (by decide) hG_35
        have hG_56 := cOK.frame hMr_48 go_.2.2.2.1 mq3_ kq3_ (by decide) (by decide) hG_36
        have hG_57 := dOK.frame hMr_48 go_.2.2.2.1 mq3_ kq3_ (by decide) (by decide) hG_37
        have hG_58 := jS.frame hMr_48 go_.2.2.2.1 mq3_ kq3_ (by decide) (by decide) hs_47
        have g := g.more hF_51
        subst hQ
        exact W.vret hx hb hr (fun t ht hW => ⟨⟨_, rfl, Or.inl ⟨hG_55, hG_56, hG_57, hG_58, x_49, h_50, x_27, h_28, y_12, b_13, (g.fcts [0, 1, 2, 3, 4, 5, 7] rfl)⟩, q3_of g hK ht hW⟩, g.2.2.1.F ht⟩) g.2.2.1.2.2 dX2_readKept_84
      · have hG_59 := eOK.frame hMr_48 go_.2.2.2.1 mq2_ kq2_ (by decide) (by decide) hG_35
        have hG_60 := cOK.frame hMr_48 go_.2.2.2.1 mq3_ kq3_ (by decide) (by decide) hG_36
        have hG_61 := dOK.frame hMr_48 go_.2.2.2.1 mq3_ kq3_ (by decide) (by decide) hG_37
        have hG_62 := jS.frame hMr_48 go_.2.2.2.1 mq3_ kq3_ (by decide) (by decide) hs_47
        have g := g.more hF_54
        have kb_1201 : bd 1201 1201 (1201 : Int32) := ⟨by decide, by decide⟩
        subst hQ
        exact W.vret hx hb hr (fun t ht hW => ⟨⟨_, rfl, Or.inr (⟨hG_59, hG_61, 1201, kb_1201, x_52, h_53, x_27, h_28, (g.fcts [0, 1, 2, 3, 4, 5] rfl)⟩), q3_of g hK ht hW⟩, g.2.2.1.F ht⟩) g.2.2.1.2.2 dX2_readKept_84
    · have g := g.more hF_46
      refine lv_aload_n hx hb dX2_readKept_75 rfl (lv_at hl 0 rfl) ?_
      refine g_getk (C := RX2) (T := TX2) (N := 16) hx hb hts (mc_ inX2) hown hK g rfl 0 (by decide) rfl (hts _ (List.mem_cons_of_mem _ t_416)) (fun _ h9 => h9) 8 rfl dX2_readKept_76 ?_
      refine lv_bipush (v := 59) hx hb dX2_readKept_79 (by decide) ?_
      have go_ := g
      refine g_callv (va_runV (As := [.int 59]) (rest := []) ⟨hx, hb, hml, hown, hts⟩ (r_X8_take_2 l dC dI L kd tys fr_34 H.size g.2.2.2.1 q0_ mq0_ kq0_ 59 x_42 h_43 x_44 h_45 (g.fcts [2, 3] rfl)) (cwV 1 hts (gV_ t_1098 t_1099 t_1100 t_184 t_1101) rfl rfl rfl (by decide +kernel) ⟨(Nat.le_of_ble_eq_true rfl), (Nat.le_of_ble_eq_true rfl)⟩) (pre3V g hK mq0_ kq0_ (by decide) (q := (RX8, TX8, 10)) rfl) rfl rfl hl.1 rfl (lv_room (Nat.le_of_ble_eq_true rfl)) dX2_readKept_81 ⟨(Nat.le_of_ble_eq_true rfl), (Nat.le_of_ble_eq_true rfl)⟩) g hK (by decide) (by decide) (fx' := [(5, 8, q1_, .int 0), (5, 7, q1_, .int 0), (8, 8, q0_, .int x_44), (0, 2, q2_, .ref q3_), (7, 13, q3_, .int x_27), (5, 2, q1_, .int x_19), (9, 11, q4_, .int y_12), (2, 0, a0_, .ref q0_), (2, 1, a0_, .ref q1_), (2, 2, a0_, .ref q2_), (2, 3, a0_, .ref q3_), (2, 4, a0_, .ref q4_), (0, 0, q2_, .ref q0_), (0, 1, q2_, .ref q1_), (5, 0, q1_, .ref q3_), (5, 1, q1_, .ref q8_)]) rfl (fun fr_63 H locs hp hMr_63 g => ?_)
      obtain ⟨x_64, h_65, hF_66⟩ := hp
      have hG_67 := eOK.frame hMr_63 go_.2.2.2.1 mq2_ kq2_ (by decide) (by decide) hG_40
      have hG_68 := dOK.frame hMr_63 go_.2.2.2.1 mq3_ kq3_ (by decide) (by decide) hG_41
      have g := g.more hF_66
      subst hQ
      exact W.vret hx hb hr (fun t ht hW => ⟨⟨_, rfl, Or.inr (⟨hG_67, hG_68, x_64, h_65, x_44, h_45, x_27, h_28, (g.fcts [0, 3, 1, 2, 4, 5] rfl)⟩), q3_of g hK ht hW⟩, g.2.2.1.F ht⟩) g.2.2.1.2.2 dX2_readKept_84
  · have fc_2 := nlt_f c_2
    have b_69 : bd 8 2147483647 x_1 := leR fc_2 kb_8 (bdT x_1) (by decide)
    refine lv_aload_n hx hb dX2_readKept_12 rfl (lv_at hl 0 rfl) ?_
    refine g_getk (C := RX2) (T := TX2) (N := 16) hx hb hts (mc_ inX2) hown hK g rfl 0 (by decide) rfl (hts _ (List.mem_cons_of_mem _ t_416)) (fun _ h9 => h9) 1 rfl dX2_readKept_13 ?_
    refine lv_iconst (v := 4) hx hb dX2_readKept_16 (by decide) ?_
    refine lv_aload_n hx hb dX2_readKept_17 rfl (lv_at hl 0 rfl) ?_
    refine g_getk (C := RX2) (T := TX2) (N := 16) hx hb hts (mc_ inX2) hown hK g rfl 0 (by decide) rfl (hts _ (List.mem_cons_of_mem _ t_416)) (fun _ h9 => h9) 1 rfl dX2_readKept_18 ?_
    have go_ := g
    refine g_calli (va_runV (As := []) (rest := [.int 4, .ref q0_]) ⟨hx, hb, hml, hown, hts⟩ (r_X8_place l dC dI L kd tys f0 s.heap.size g.2.2.2.1 q0_ mq0_ kq0_) (cwV 0 hts (gV_ t_1110 t_1111 t_1112 t_184 t_1113) rfl rfl rfl (by decide +kernel) ⟨(Nat.le_of_ble_eq_true rfl), (Nat.le_of_ble_eq_true rfl)⟩) (pre3V g hK mq0_ kq0_ (by decide) (q := (RX8, TX8, 10)) rfl) rfl rfl hl.1 rfl (lv_room (Nat.le_of_ble_eq_true rfl)) dX2_readKept_21 ⟨(Nat.le_of_ble_eq_true rfl), (Nat.le_of_ble_eq_true rfl)⟩) g hK (by decide) (by decide) (fx' := [(9, 11, q4_, .int x_1), (2, 0, a0_, .ref q0_), (2, 1, a0_, .ref q1_), (2, 2, a0_, .ref q2_), (2, 3, a0_, .ref q3_), (2, 4, a0_, .ref q4_), (0, 0, q2_, .ref q0_), (0, 1, q2_, .ref q1_), (5, 0, q1_, .ref q3_), (5, 1, q1_, .ref q8_), (8, 8, q0_, .int y0_)]) rfl (fun r_70 fr_70 H locs hp hMr_70 g => ?_)
    have hG_71 := eOK.frame hMr_70 go_.2.2.2.1 mq2_ kq2_ (by decide) (by decide) hGeq2_
    have hG_72 := cOK.frame hMr_70 go_.2.2.2.1 mq3_ kq3_ (by decide) (by decide) hGcq3_
    have hG_73 := dOK.frame hMr_70 go_.2.2.2.1 mq3_ kq3_ (by decide) (by decide) hGdq3_
    have hG_74 := jS.frame hMr_70 go_.2.2.2.1 mq3_ kq3_ (by decide) (by decide) hGsq3_
    have kb_4 : bd 4 4 (4 : Int32) := ⟨by decide, by decide⟩
    have go_ := g
    refine g_callv (va_runV (As := [.int 4, .int r_70]) (rest := []) ⟨hx, hb, hml, hown, hts⟩ (r_X8_fail l dC dI L kd tys fr_70 H.size g.2.2.2.1 q0_ mq0_ kq0_ 4 (bd_sub kb_4 (by decide)) r_70 y0_ by0_ (g.fcts [10] rfl)) (cwV 2 hts (gV_ t_1122 t_1107 t_1108 t_184 t_1109) rfl rfl rfl (by decide +kernel) ⟨(Nat.le_of_ble_eq_true rfl), (Nat.le_of_ble_eq_true rfl)⟩) (pre3V g hK mq0_ kq0_ (by decide) (q := (RX8, TX8, 10)) rfl) rfl rfl hl.1 rfl (lv_room (Nat.le_of_ble_eq_true rfl)) dX2_readKept_24 ⟨(Nat.le_of_ble_eq_true rfl), (Nat.le_of_ble_eq_true rfl)⟩) g hK (by decide) (by decide) (fx' := [(9, 11, q4_, .int x_1), (2, 0, a0_, .ref q0_), (2, 1, a0_, .ref q1_), (2, 2, a0_, .ref q2_), (2, 3, a0_, .ref q3_), (2, 4, a0_, .ref q4_), (0, 0, q2_, .ref q0_), (0, 1, q2_, .ref q1_), (5, 0, q1_, .ref q3_), (5, 1, q1_, .ref q8_)]) rfl (fun fr_75 H locs hp hMr_75 g => ?_)
    obtain ⟨x_76, h_77, hF_78⟩ := hp
    have hG_79 := eOK.frame hMr_75 go_.2.2.2.1 mq2_ kq2_ (by decide) (by decide) hG_71
    have hG_80 := cOK.frame hMr_75 go_.2.2.2.1 mq3_ kq3_ (by decide) (by decide) hG_72
    have hG_81 := dOK.frame hMr_75 go_.2.2.2.1 mq3_ kq3_ (by decide) (by decide) hG_73
    have hG_82 := jS.frame hMr_75 go_.2.2.2.1 mq3_ kq3_ (by decide) (by decide) hG_74
    have g := g.more hF_78
    refine lv_aload_n hx hb dX2_readKept_27 rfl (lv_at hl 0 rfl) ?_
    refine g_getk (C := RX2) (T := TX2) (N := 16) hx hb hts (mc_ inX2) hown hK g rfl 0 (by decide) rfl (hts _ (List.mem_cons_of_mem _ t_416)) (fun _ h9 => h9) 3 rfl dX2_readKept_28 ?_
    have kb_1201 : bd 1201 1201 (1201 : Int32) := ⟨by decide, by decide⟩
    have go_ := g
    refine g_callv (va_runV (As := []) (rest := []) ⟨hx, hb, hml, hown, hts⟩ (r_X8_next_2 l dC dI L kd tys fr_75 H.size g.2.2.2.1 q0_ mq0_ kq0_ 1201 kb_1201 (g.fcts [0] rfl)) (cwV 0 hts (gV_ t_1131 t_1103 t_1104 t_184 t_1105) rfl rfl rfl (by decide +kernel) ⟨(Nat.le_of_ble_eq_true rfl), (Nat.le_of_ble_eq_true rfl)⟩) (pre3V g hK mq0_ kq0_ (by decide) (q := (RX8, TX8, 10)) rfl) rfl rfl hl.1 rfl (lv_room (Nat.le_of_ble_eq_true rfl)) dX2_readKept_31 ⟨(Nat.le_of_ble_eq_true rfl), (Nat.le_of_ble_eq_true rfl)⟩) g hK (by decide) (by decide) (fx' := [(8, 6, q0_, .int 1201), (8, 8, q0_, .int x_76), (9, 11, q4_, .int x_1), (2, 0, a0_, .ref q0_), (2, 1, a0_, .ref q1_), (2, 2, a0_, .ref q2_), (2, 3, a0_, .ref q3_), (2, 4, a0_, .ref q4_), (0, 0, q2_, .ref q0_), (0, 1, q2_, .ref q1_), (5, 0, q1_, .ref q3_), (5, 1, q1_, .ref q8_)]) rfl (fun fr_83 H locs hp hMr_83 g => ?_)
    have hG_84 := eOK.frame hMr_83 go_.2.2.2.1 mq2_ kq2_ (by decide) (by decide) hG_79
    have hG_85 := cOK.frame hMr_83 go_.2.2.2.1 mq3_ kq3_ (by decide) (by decide) hG_80
    have hG_86 := dOK.frame hMr_83 go_.2.2.2.1 mq3_ kq3_ (by decide) (by decide) hG_81
    have hG_87 := jS.frame hMr_83 go_.2.2.2.1 mq3_ kq3_ (by decide) (by decide) hG_82
    refine lv_aload_n hx hb dX2_readKept_34 rfl (lv_at hl 0 rfl) ?_
    refine g_getk (C := RX2) (T := TX2) (N := 16) hx hb hts (mc_ inX2) hown hK g rfl 4 (by decide) rfl (hts _ (List.mem_cons_of_mem _ t_420)) (fun _ h9 => h9) 7 rfl dX2_readKept_35 ?_
    refine lv_dup hx hb dX2_readKept_38 rfl ?_
    refine g_getk (C := RX9) (T := TX9) (N := 13) hx hb hts (mc_ inX9) hown hK g rfl 11 (by decide) rfl (hts _ (List.mem_cons_of_mem _ t_516)) (fun _ h9 => h9) 2 rfl dX2_readKept_39 ?_
    refine lv_iconst (v := 1) hx hb dX2_readKept_42 (by decide) ?_
    have kb_1 : bd 1 1 (1 : Int32) := ⟨by decide, by decide⟩
    refine lv_iadd hx hb dX2_readKept_43 ?_
    refine lv_topi (fun y_88 ey_88 => ?_)
    have go_ := g
    refine g_put (C := RX9) (T := TX9) (N := 13) hx hb hts (mc_ inX9) tyX9 tyX9_ok nmX9 hown hK g mq4_ kq4_ (by decide) rfl 11 (by decide) (hts _ (List.mem_cons_of_mem _ t_516)) (fun _ h9 => h9) rfl rfl (okV_i (bdT y_88)) rfl rfl (by decide) (Or.inr (Or.inl (by decide))) (fx' := [(8, 6, q0_, .int 1201), (8, 8, q0_, .int x_76), (2, 0, a0_, .ref q0_), (2, 1, a0_, .ref q1_), (2, 2, a0_, .ref q2_), (2, 3, a0_, .ref q3_), (2, 4, a0_, .ref q4_), (0, 0, q2_, .ref q0_), (0, 1, q2_, .ref q1_), (5, 0, q1_, .ref q3_), (5, 1, q1_, .ref q8_)]) rfl dX2_readKept_44 (fun f H locs hM_89 g => ?_)
    have hG_90 := eOK.frame hM_89 go_.2.2.2.1 mq2_ kq2_ (by decide) (by decide) hG_84
    have hG_91 := cOK.frame hM_89 go_.2.2.2.1 mq3_ kq3_ (by decide) (by decide) hG_85
    have hG_92 := dOK.frame hM_89 go_.2.2.2.1 mq3_ kq3_ (by decide) (by decide) hG_86
    have hG_93 := jS.frame hM_89 go_.2.2.2.1 mq3_ kq3_ (by decide) (by decide) hG_87
    refine lv_aload_n hx hb dX2_readKept_47 rfl (lv_at hl 0 rfl) ?_
    refine g_getk (C := RX2) (T := TX2) (N := 16) hx hb hts (mc_ inX2) hown hK g rfl 3 (by decide) rfl (hts _ (List.mem_cons_of_mem _ t_419)) (fun _ h9 => h9) 6 rfl dX2_readKept_48 ?_
    refine lv_iconst (v := 3) hx hb dX2_readKept_51 (by decide) ?_
    refine lv_aload_n hx hb dX2_readKept_52 rfl (lv_at hl 0 rfl) ?_
    refine g_getk (C := RX2) (T := TX2) (N := 16) hx hb hts (mc_ inX2) hown hK g rfl 1 (by decide) rfl (hts _ (List.mem_cons_of_mem _ t_417)) (fun _ h9 => h9) 4 rfl dX2_readKept_53 ?_
    refine g_geti (C := RX5) (T := TX5) (N := 9) hx hb hts (mc_ inX5) hown hK g mq1_ kq1_ (by decide) rfl 2 (by decide) rfl (hts _ (List.mem_cons_of_mem _ t_333)) (fun _ h9 => h9) rfl dX2_readKept_56 (fun x_94 bx_94 g => ?_)
    refine lv_aload_n hx hb dX2_readKept_59 rfl (lv_at hl 0 rfl) ?_
    refine g_getk (C := RX2) (T := TX2) (N := 16) hx hb hts (mc_ inX2) hown hK g rfl 0 (by decide) rfl (hts _ (List.mem_cons_of_mem _ t_416)) (fun _ h9 => h9) 4 rfl dX2_readKept_60 ?_
    have go_ := g
    refine g_calli (va_runV (As := []) (rest := [.int x_94, .int 3, .ref q3_]) ⟨hx, hb, hml, hown, hts⟩ (r_X8_place l dC dI L kd tys f H.size g.2.2.2.1 q0_ mq0_ kq0_) (cwV 0 hts (gV_ t_1110 t_1111 t_1112 t_184 t_1113) rfl rfl rfl (by decide +kernel) ⟨(Nat.le_of_ble_eq_true rfl), (Nat.le_of_ble_eq_true rfl)⟩) (pre3V g hK mq0_ kq0_ (by decide) (q := (RX8, TX8, 10)) rfl) rfl rfl hl.1 rfl (lv_room (Nat.le_of_ble_eq_true rfl)) dX2_readKept_63 ⟨(Nat.le_of_ble_eq_true rfl), (Nat.le_of_ble_eq_true rfl)⟩) g hK (by decide) (by decide) (fx' := [(5, 2, q1_, .int x_94), (9, 11, q4_, .int y_88), (8, 6, q0_, .int 1201), (8, 8, q0_, .int x_76), (2, 0, a0_, .ref q0_), (2, 1, a0_, .ref q1_), (2, 2, a0_, .ref q2_), (2, 3, a0_, .ref q3_), (2, 4, a0_, .ref q4_), (0, 0, q2_, .ref q0_), (0, 1, q2_, .ref q1_), (5, 0, q1_, .ref q3_), (5, 1, q1_, .ref q8_)]) rfl (fun r_95 fr_95 H locs hp hMr_95 g => ?_)
    have hG_96 := eOK.frame hMr_95 go_.2.2.2.1 mq2_ kq2_ (by decide) (by decide) hG_90
    have hG_97 := cOK.frame hMr_95 go_.2.2.2.1 mq3_ kq3_ (by decide) (by decide) hG_91
    have hG_98 := dOK.frame hMr_95 go_.2.2.2.1 mq3_ kq3_ (by decide) (by decide) hG_92
    have hG_99 := jS.frame hMr_95 go_.2.2.2.1 mq3_ kq3_ (by decide) (by decide) hG_93
    have go_ := g
    refine g_calli (va_runV (As := [.int 3, .int x_94, .int r_95]) (rest := []) ⟨hx, hb, hml, hown, hts⟩ (r_X7_addMark l dC dI L kd tys fr_95 H.size g.2.2.2.1 q3_ mq3_ kq3_ 3 x_94 r_95) (cwV 3 hts (gV_ t_1173 t_1174 t_1175 t_191 t_1176) rfl rfl rfl (by decide +kernel) ⟨(Nat.le_of_ble_eq_true rfl), (Nat.le_of_ble_eq_true rfl)⟩) (pre3V g hK mq3_ kq3_ (by decide) (q := (RX7, TX7, 19)) rfl) rfl rfl hl.1 rfl (lv_room (Nat.le_of_ble_eq_true rfl)) dX2_readKept_66 ⟨(Nat.le_of_ble_eq_true rfl), (Nat.le_of_ble_eq_true rfl)⟩) g hK (by decide) (by decide) (fx' := [(5, 2, q1_, .int x_94), (9, 11, q4_, .int y_88), (8, 6, q0_, .int 1201), (8, 8, q0_, .int x_76), (2, 0, a0_, .ref q0_), (2, 1, a0_, .ref q1_), (2, 2, a0_, .ref q2_), (2, 3, a0_, .ref q3_), (2, 4, a0_, .ref q4_), (0, 0, q2_, .ref q0_), (0, 1, q2_, .ref q1_), (5, 0, q1_, .ref q3_), (5, 1, q1_, .ref q8_)]) rfl (fun r_100 fr_100 H locs hp hMr_100 g => ?_)
    obtain ⟨h_101, x_102, h_103, hF_104⟩ := hp
    have hG_105 := eOK.frame hMr_100 go_.2.2.2.1 mq2_ kq2_ (by decide) (by decide) hG_96
    have hG_106 := cOK.frame hMr_100 go_.2.2.2.1 mq3_ kq3_ (by decide) (by decide) hG_97
    have hG_107 := dOK.frame hMr_100 go_.2.2.2.1 mq3_ kq3_ (by decide) (by decide) hG_98
    have hG_108 := jS.frame hMr_100 go_.2.2.2.1 mq3_ kq3_ (by decide) (by decide) hG_99
    have g := g.more hF_104
    refine lv_pop hx hb dX2_readKept_69 rfl ?_
    refine lv_aload_n hx hb dX2_readKept_70 rfl (lv_at hl 0 rfl) ?_
    refine lv_iconst (v := 0) hx hb dX2_readKept_71 (by decide) ?_
    have kb_0 : bd 0 0 (0 : Int32) := ⟨by decide, by decide⟩
    have go_ := g
    refine g_callv (va_runV (As := [.int 0]) (rest := []) ⟨hx, hb, hml, hown, hts⟩ (r_X2_readAsked_2 l dC dI L kd tys fr_100 H.size g.2.2.2.1 a0_ ma0_ ka0_ 0 kb_0 q0_ mq0_ kq0_ q1_ mq1_ kq1_ q2_ mq2_ kq2_ q3_ mq3_ kq3_ q8_ mq8_ kq8_ x_102 h_103 1201 kb_1201 x_76 h_77 T_ hG_105 hG_107 (g.fcts [5, 6, 7, 8, 10, 11, 12, 13, 0, 3, 4] rfl)) (cwV 1 hts (gV_ t_1178 t_1180 t_13 t_183 t_1181) rfl rfl rfl (by decide +kernel) ⟨(Nat.le_of_ble_eq_true rfl), (Nat.le_of_ble_eq_true rfl)⟩) (pre3V g hK ma0_ ka0_ (by decide) (q := (RX2, TX2, 16)) rfl) rfl rfl hl.1 rfl (lv_room (Nat.le_of_ble_eq_true rfl)) dX2_readKept_72 ⟨(Nat.le_of_ble_eq_true rfl), (Nat.le_of_ble_eq_true rfl)⟩) g hK (by decide) (by decide) (fx' := [(7, 13, q3_, .int x_102), (5, 2, q1_, .int x_94), (9, 11, q4_, .int y_88), (8, 6, q0_, .int 1201), (8, 8, q0_, .int x_76), (2, 0, a0_, .ref q0_), (2, 1, a0_, .ref q1_), (2, 2, a0_, .ref q2_), (2, 3, a0_, .ref q3_), (2, 4, a0_, .ref q4_), (0, 0, q2_, .ref q0_), (0, 1, q2_, .ref q1_), (5, 0, q1_, .ref q3_), (5, 1, q1_, .ref q8_)]) rfl (fun fr_109 H locs hp hMr_109 g => ?_)
    obtain ⟨hG_110, hF_111⟩ := hp
    have hG_112 := eOK.frame hMr_109 go_.2.2.2.1 mq2_ kq2_ (by decide) (by decide) hG_105
    have g := g.more hF_111
    refine lv_aload_n hx hb dX2_readKept_75 rfl (lv_at hl 0 rfl) ?_
    refine g_getk (C := RX2) (T := TX2) (N := 16) hx hb hts (mc_ inX2) hown hK g rfl 0 (by decide) rfl (hts _ (List.mem_cons_of_mem _ t_416)) (fun _ h9 => h9) 13 rfl dX2_readKept_76 ?_
    refine lv_bipush (v := 59) hx hb dX2_readKept_79 (by decide) ?_
    have go_ := g
    refine g_callv (va_runV (As := [.int 59]) (rest := []) ⟨hx, hb, hml, hown, hts⟩ (r_X8_take_2 l dC dI L kd tys fr_109 H.size g.2.2.2.1 q0_ mq0_ kq0_ 59 1201 kb_1201 x_76 h_77 (g.fcts [11, 12] rfl)) (cwV 1 hts (gV_ t_1098 t_1099 t_1100 t_184 t_1101) rfl rfl rfl (by decide +kernel) ⟨(Nat.le_of_ble_eq_true rfl), (Nat.le_of_ble_eq_true rfl)⟩) (pre3V g hK mq0_ kq0_ (by decide) (q := (RX8, TX8, 10)) rfl) rfl rfl hl.1 rfl (lv_room (Nat.le_of_ble_eq_true rfl)) dX2_readKept_81 ⟨(Nat.le_of_ble_eq_true rfl), (Nat.le_of_ble_eq_true rfl)⟩) g hK (by decide) (by decide) (fx' := [(5, 8, q1_, .int 0), (5, 7, q1_, .int 0), (0, 13, q2_, .int 0), (0, 12, q2_, .int 1), (0, 11, q2_, .int 0), (0, 10, q2_, .int 0), (0, 8, q2_, .int 0), (0, 2, q2_, .ref q3_), (7, 13, q3_, .int x_102), (5, 2, q1_, .int x_94), (9, 11, q4_, .int y_88), (8, 8, q0_, .int x_76), (2, 0, a0_, .ref q0_), (2, 1, a0_, .ref q1_), (2, 2, a0_, .ref q2_), (2, 3, a0_, .ref q3_), (2, 4, a0_, .ref q4_), (0, 0, q2_, .ref q0_), (0, 1, q2_, .ref q1_), (5, 0, q1_, .ref q3_), (5, 1, q1_, .ref q8_)]) rfl (fun fr_113 H locs hp hMr_113 g => ?_)
    obtain ⟨x_114, h_115, hF_116⟩ := hp
    have hG_117 := eOK.frame hMr_113 go_.2.2.2.1 mq2_ kq2_ (by decide) (by decide) hG_112
    have hG_118 := dOK.frame hMr_113 go_.2.2.2.1 mq3_ kq3_ (by decide) (by decide) hG_110
    have g := g.more hF_116
    subst hQ
    exact W.vret hx hb hr (fun t ht hW => ⟨⟨_, rfl, Or.inr (⟨hG_117, hG_118, x_114, h_115, x_76, h_77, x_102, h_103, (g.fcts [0, 12, 1, 2, 8, 9] rfl)⟩), q3_of g hK ht hW⟩, g.2.2.1.F ht⟩) g.2.2.1.2.2 dX2_readKept_84
set_option maxHeartbeats 4000000 in
set_option maxRecDepth 100000 in
theorem r_X2_beginTelling (l : Launch) (dC : Nat → ClassId) (dI : Nat → Nat → Nat) (L : List Nat) (kd : Nat → Nat) (tys : List (ClassId × FieldType)) (f0 : Nat → va_E) (sz : Nat) (hWT : WT L kd tys f0) (a0_ : Nat) (ma0_ : a0_ ∈ L) (ka0_ : kd a0_ = 2) (x1_ : Int64) (x2_ : Int32) (x3_ : Int32) (bx3_ : bd 0 11 x3_) (q0_ : Nat) (mq0_ : q0_ ∈ L) (kq0_ : kd q0_ = 8) (q1_ : Nat) (mq1_ : q1_ ∈ L) (kq1_ : kd q1_ = 7) (q2_ : Nat) (mq2_ : q2_ ∈ L) (kq2_ : kd q2_ = 9) (y0_ : Int32) (by0_ : bd 0 0 y0_) (hfx : Fs L kd f0 [(2, 0, a0_, .ref q0_), (2, 3, a0_, .ref q1_), (2, 4, a0_, .ref q2_), (8, 8, q0_, .int y0_)]) : Met l yX2_beginTelling (.code yX2_beginTelling cX2_beginTelling 7 none :: lw_g) ({ frames := 1, cells := 0, slots := 0, locals := 14 }) (va_Pc [.ref a0_, .long x1_, .int x2_, .int x3_] (P3 (dC, dI) L tys f0 sz)) (va_Qv (fun (f : Nat → va_E) => (∃ z1_ : Int32, bd 1 12 z1_ ∧ ∃ z2_ : Nat, (z2_ ∈ L ∧ kd z2_ = 6) ∧ ∃ z3_ : Int32, bd 1 96 z3_ ∧ ∃ z4_ : Int32, bd 0 0 z4_ ∧ Fs L kd f [(2, 6, a0_, .int 0), (9, 8, q2_, .int z1_), (2, 5, a0_, .ref z2_), (7, 3, q1_, .int z3_), (6, 12, z2_, .int z4_)])) (Q3 (dC, dI) L kd tys [(2, 5), (2, 6), (6, 0), (6, 1), (6, 2), (6, 3), (6, 6), (6, 7), (6, 8), (6, 9), (6, 10), (6, 11), (6, 12), (7, 3), (9, 8)] [156] f0 sz) (pA L sz)) 0 0 (pA L sz) := by
  refine Met.ofW (cc := cX2_beginTelling) (maxL := 7) (ret := none) (by decide) rfl ?_
  intro p e s m args below meth c s₁ B hml hv
  obtain ⟨rfl, hsz, hP, hK, hD0⟩ := hv
  have hx := B.exec
  have hb := B.bytes
  have hr := B.returns
  have hts := atoms_spec (ws := (.code yX2_beginTelling cX2_beginTelling 7 none :: lw_g)) B.pre
  have hown : s.vm.findClass RX2 = some m.cls := findClass_of_methodNamed B.named
  have hlocks := B.notSynchronized
  subst hsz
  have g : G3 (dC, dI) L kd tys s f0 [(2, 5), (2, 6), (6, 0), (6, 1), (6, 2), (6, 3), (6, 6), (6, 7), (6, 8), (6, 9), (6, 10), (6, 11), (6, 12), (7, 3), (9, 8)] [156] f0 s.heap [] [(2, 0, a0_, .ref q0_), (2, 3, a0_, .ref q1_), (2, 4, a0_, .ref q2_), (8, 8, q0_, .int y0_)] := G3.start hP hD0 hWT hfx
  have hl := lv_entry ([.ref a0_, .long x1_, .int x2_, .int x3_]) (n := 7) (Nat.le_of_ble_eq_true rfl)
  rw [lg_entry_eq]
  generalize (lg_sl ([.ref a0_, .long x1_, .int x2_, .int x3_]) ++ List.replicate (7 - (lg_sl ([.ref a0_, .long x1_, .int x2_, .int x3_])).length) Slot.unset).toArray = ls at hl ⊢
  have hl : lv_has ls 7 [(0, .ref a0_), (1, .long x1_), (3, .int x2_), (4, .int x3_)] := hl
  refine W_q (fun Q hQ => ?_)
  refine lv_aload_n hx hb dX2_beginTelling_0 rfl (lv_at hl 0 rfl) ?_
  refine g_getk (C := RX2) (T := TX2) (N := 16) hx hb hts (mc_ inX2) hown hK g rfl 3 (by decide) rfl (hts _ (List.mem_cons_of_mem _ t_419)) (fun _ h9 => h9) 1 rfl dX2_beginTelling_1 ?_
  refine g_geti (C := RX7) (T := TX7) (N := 19) hx hb hts (mc_ inX7) hown hK g mq1_ kq1_ (by decide) rfl 3 (by decide) rfl (hts _ (List.mem_cons_of_mem _ t_638)) (fun _ h9 => h9) rfl dX2_beginTelling_4 (fun x_1 bx_1 g => ?_)
  refine lv_bipush (v := 95) hx hb dX2_beginTelling_7 (by decide) ?_
  have kb_95 : bd 95 95 (95 : Int32) := ⟨by decide, by decide⟩
  refine va_mmin hx hb (hml.trans hl.1.symm) hown (hts _ (List.mem_cons_of_mem _ t_1311)) (hts _ (List.mem_cons_of_mem _ t_998)) (hts _ (List.mem_cons_of_mem _ t_204)) (hts _ (List.mem_cons_of_mem _ t_999)) (Nat.le_of_ble_eq_true rfl) (Nat.le_of_ble_eq_true rfl) (Nat.le_of_ble_eq_true rfl) (Nat.le_of_ble_eq_true rfl) dX2_beginTelling_9 ?_
  refine lv_topi (fun y_2 ey_2 => ?_)
  have ty_2 : y_2.toInt = min x_1.toInt (95 : Int32).toInt := by rw [ey_2]; exact mmin_ok _ _
  have b_3 : bd 0 95 y_2 := min_rg ty_2 bx_1 kb_95 (by decide)
  refine lv_istore (lv' := [(5, .int y_2), (0, .ref a0_), (1, .long x1_), (3, .int x2_), (4, .int x3_)]) hx hb dX2_beginTelling_12 hl (by decide) rfl (fun ls hl => ?_)
  refine lv_aload_n hx hb dX2_beginTelling_14 rfl (lv_at hl 1 rfl) ?_
  refine g_getk (C := RX2) (T := TX2) (N := 16) hx hb hts (mc_ inX2) hown hK g rfl 3 (by decide) rfl (hts _ (List.mem_cons_of_mem _ t_419)) (fun _ h9 => h9) 2 rfl dX2_beginTelling_15 ?_
  refine lv_iload hx hb dX2_beginTelling_18 (lv_at hl 0 rfl) ?_
  refine lv_iconst (v := 1) hx hb dX2_beginTelling_20 (by decide) ?_
  have kb_1 : bd 1 1 (1 : Int32) := ⟨by decide, by decide⟩
  refine lv_iadd hx hb dX2_beginTelling_21 ?_
  refine lv_topi (fun y_4 ey_4 => ?_)
  have ty_4 := add_bd ey_4 b_3 kb_1 (by decide)
  have b_5 : bd 1 96 y_4 := add_rg ty_4 b_3 kb_1 (by decide)
  refine g_put (C := RX7) (T := TX7) (N := 19) hx hb hts (mc_ inX7) tyX7 tyX7_ok nmX7 hown hK g mq1_ kq1_ (by decide) rfl 3 (by decide) (hts _ (List.mem_cons_of_mem _ t_638)) (fun _ h9 => h9) rfl rfl (okV_i (bd_sub b_5 (by decide))) rfl rfl (by decide) (Or.inr (Or.inl (by decide))) (fx' := [(2, 0, a0_, .ref q0_), (2, 3, a0_, .ref q1_), (2, 4, a0_, .ref q2_), (8, 8, q0_, .int y0_)]) rfl dX2_beginTelling_22 (fun f H locs hM_6 g => ?_)
  refine lv_iload hx hb dX2_beginTelling_25 (lv_at hl 4 rfl) ?_
  refine lv_iconst (v := (-1)) hx hb dX2_beginTelling_27 (by decide) ?_
  have kb_m1 : bd (-1) (-1) ((-1) : Int32) := ⟨by decide, by decide⟩
  refine lv_icmp_ne (tgt := 41) hx hb dX2_beginTelling_28 (by decide) (fun c_7 => ?_) (fun c_7 => ?_)
  · have fc_7 := neq_f c_7
    refine lv_iload hx hb dX2_beginTelling_41 (lv_at hl 4 rfl) ?_
    refine lv_istore (lv' := [(6, .int x3_), (5, .int y_2), (0, .ref a0_), (1, .long x1_), (3, .int x2_), (4, .int x3_)]) hx hb dX2_beginTelling_43 hl (by decide) rfl (fun ls hl => ?_)
    refine lv_aload_n hx hb dX2_beginTelling_45 rfl (lv_at hl 2 rfl) ?_
    refine lv_aload_n hx hb dX2_beginTelling_46 rfl (lv_at hl 2 rfl) ?_
    refine g_getk (C := RX2) (T := TX2) (N := 16) hx hb hts (mc_ inX2) hown hK g rfl 3 (by decide) rfl (hts _ (List.mem_cons_of_mem _ t_419)) (fun _ h9 => h9) 2 rfl dX2_beginTelling_47 ?_
    refine g_getr (K := 137) (C := RX7) (T := TX7) (N := 19) hx hb hts (mc_ inX7) hown hK g mq1_ kq1_ (by decide) rfl 2 (by decide) rfl (hts _ (List.mem_cons_of_mem _ t_630)) (fun _ h9 => h9) rfl dX2_beginTelling_50 (fun a_8 ma_8 ka_8 g => ?_)
    refine lv_iload hx hb dX2_beginTelling_53 (lv_at hl 1 rfl) ?_
    refine g_aald hx hb hK g ma_8 ka_8 (by decide) rfl (by decide) (in_bd b_3 (by decide)) dX2_beginTelling_55 (fun a_9 ma_9 ua_9 wa_9 => ?_)
    have ka_9 : kd a_9 = 6 := by omega
    refine g_put (C := RX2) (T := TX2) (N := 16) hx hb hts (mc_ inX2) tyX2 tyX2_ok nmX2 hown hK g ma0_ ka0_ (by decide) rfl 5 (by decide) (hts _ (List.mem_cons_of_mem _ t_421)) (fun _ h9 => h9) rfl rfl (okV_n ma_9 ka_9 (by decide)) rfl rfl (by decide) (Or.inr (Or.inl (by decide))) (fx' := [(7, 2, q1_, .ref a_8), (7, 3, q1_, .int y_4), (2, 0, a0_, .ref q0_), (2, 3, a0_, .ref q1_), (2, 4, a0_, .ref q2_), (8, 8, q0_, .int y0_)]) rfl dX2_beginTelling_56 (fun f H locs hM_10 g => ?_)
    refine lv_aload_n hx hb dX2_beginTelling_59 rfl (lv_at hl 2 rfl) ?_
    refine g_getk (C := RX2) (T := TX2) (N := 16) hx hb hts (mc_ inX2) hown hK g rfl 5 (by decide) rfl (hts _ (List.mem_cons_of_mem _ t_421)) (fun _ h9 => h9) 0 rfl dX2_beginTelling_60 ?_
    refine lv_lload_n hx hb dX2_beginTelling_63 rfl (lv_at hl 3 rfl) ?_
    refine g_put (C := RX6) (T := TX6) (N := 13) hx hb hts (mc_ inX6) tyX6 tyX6_ok nmX6 hown hK g ma_9 ka_9 (by decide) rfl 0 (by decide) (hts _ (List.mem_cons_of_mem _ t_556)) (fun _ h9 => h9) rfl rfl okV_l rfl rfl (by decide) (Or.inr (Or.inl (by decide))) (fx' := [(2, 5, a0_, .ref a_9), (7, 2, q1_, .ref a_8), (7, 3, q1_, .int y_4), (2, 0, a0_, .ref q0_), (2, 3, a0_, .ref q1_), (2, 4, a0_, .ref q2_), (8, 8, q0_, .int y0_)]) rfl dX2_beginTelling_64 (fun f H locs hM_11 g => ?_)
    refine lv_aload_n hx hb dX2_beginTelling_67 rfl (lv_at hl 2 rfl) ?_
    refine g_getk (C := RX2) (T := TX2) (N := 16) hx hb hts (mc_ inX2) hown hK g rfl 5 (by decide) rfl (hts _ (List.mem_cons_of_mem _ t_421)) (fun _ h9 => h9) 1 rfl dX2_beginTelling_68 ?_
    refine lv_iload_n hx hb dX2_beginTelling_71 rfl (lv_at hl 4 rfl) ?_
    refine g_put (C := RX6) (T := TX6) (N := 13) hx hb hts (mc_ inX6) tyX6 tyX6_ok nmX6 hown hK g ma_9 ka_9 (by decide) rfl 1 (by decide) (hts _ (List.mem_cons_of_mem _ t_559)) (fun _ h9 => h9) rfl rfl (okV_i (bdT x2_)) rfl rfl (by decide) (Or.inr (Or.inl (by decide))) (fx' := [(6, 0, a_9, .long x1_), (2, 5, a0_, .ref a_9), (7, 2, q1_, .ref a_8), (7, 3, q1_, .int y_4), (2, 0, a0_, .ref q0_), (2, 3, a0_, .ref q1_), (2, 4, a0_, .ref q2_), (8, 8, q0_, .int y0_)]) rfl dX2_beginTelling_72 (fun f H locs hM_12 g => ?_)
    refine lv_aload_n hx hb dX2_beginTelling_75 rfl (lv_at hl 2 rfl) ?_
    refine g_getk (C := RX2) (T := TX2) (N := 16) hx hb hts (mc_ inX2) hown hK g rfl 5 (by decide) rfl (hts _ (List.mem_cons_of_mem _ t_421)) (fun _ h9 => h9) 2 rfl dX2_beginTelling_76 ?_
    refine lv_aload_n hx hb dX2_beginTelling_79 rfl (lv_at hl 2 rfl) ?_
    refine g_getr (K := 5) (C := RX2) (T := TX2) (N := 16) hx hb hts (mc_ inX2) hown hK g ma0_ ka0_ (by decide) rfl 1 (by decide) rfl (hts _ (List.mem_cons_of_mem _ t_417)) (fun _ h9 => h9) rfl dX2_beginTelling_80 (fun a_13 ma_13 ka_13 g => ?_)
    refine g_geti (C := RX5) (T := TX5) (N := 9) hx hb hts (mc_ inX5) hown hK g ma_13 ka_13 (by decide) rfl 2 (by decide) rfl (hts _ (List.mem_cons_of_mem _ t_333)) (fun _ h9 => h9) rfl dX2_beginTelling_83 (fun x_14 bx_14 g => ?_)
    refine g_put (C := RX6) (T := TX6) (N := 13) hx hb hts (mc_ inX6) tyX6 tyX6_ok nmX6 hown hK g ma_9 ka_9 (by decide) rfl 2 (by decide) (hts _ (List.mem_cons_of_mem _ t_561)) (fun _ h9 => h9) rfl rfl (okV_i (bdT x_14)) rfl rfl (by decide) (Or.inr (Or.inl (by decide))) (fx' := [(5, 2, a_13, .int x_14), (2, 1, a0_, .ref a_13), (6, 1, a_9, .int x2_), (6, 0, a_9, .long x1_), (2, 5, a0_, .ref a_9), (7, 2, q1_, .ref a_8), (7, 3, q1_, .int y_4), (2, 0, a0_, .ref q0_), (2, 3, a0_, .ref q1_), (2, 4, a0_, .ref q2_), (8, 8, q0_, .int y0_)]) rfl dX2_beginTelling_86 (fun f H locs hM_15 g => ?_)
    refine lv_aload_n hx hb dX2_beginTelling_89 rfl (lv_at hl 2 rfl) ?_
    refine g_getk (C := RX2) (T := TX2) (N := 16) hx hb hts (mc_ inX2) hown hK g rfl 5 (by decide) rfl (hts _ (List.mem_cons_of_mem _ t_421)) (fun _ h9 => h9) 5 rfl dX2_beginTelling_90 ?_
    refine lv_iconst (v := 0) hx hb dX2_beginTelling_93 (by decide) ?_
    have kb_0 : bd 0 0 (0 : Int32) := ⟨by decide, by decide⟩
    refine g_put (C := RX6) (T := TX6) (N := 13) hx hb hts (mc_ inX6) tyX6 tyX6_ok nmX6 hown hK g ma_9 ka_9 (by decide) rfl 3 (by decide) (hts _ (List.mem_cons_of_mem _ t_568)) (fun _ h9 => h9) rfl rfl (okV_i (bd_sub kb_0 (by decide))) rfl rfl (by decide) (Or.inr (Or.inl (by decide))) (fx' := [(6, 2, a_9, .int x_14), (5, 2, a_13, .int x_14), (2, 1, a0_, .ref a_13), (6, 1, a_9, .int x2_), (6, 0, a_9, .long x1_), (2, 5, a0_, .ref a_9), (7, 2, q1_, .ref a_8), (7, 3, q1_, .int y_4), (2, 0, a0_, .ref q0_), (2, 3, a0_, .ref q1_), (2, 4, a0_, .ref q2_), (8, 8, q0_, .int y0_)]) rfl dX2_beginTelling_94 (fun f H locs hM_16 g => ?_)
    refine lv_aload_n hx hb dX2_beginTelling_97 rfl (lv_at hl 2 rfl) ?_
    refine g_getk (C := RX2) (T := TX2) (N := 16) hx hb hts (mc_ inX2) hown hK g rfl 5 (by decide) rfl (hts _ (List.mem_cons_of_mem _ t_421)) (fun _ h9 => h9) 6 rfl dX2_beginTelling_98 ?_
    refine lv_iconst (v := 0) hx hb dX2_beginTelling_101 (by decide) ?_
    refine g_put (C := RX6) (T := TX6) (N := 13) hx hb hts (mc_ inX6) tyX6 tyX6_ok nmX6 hown hK g ma_9 ka_9 (by decide) rfl 6 (by decide) (hts _ (List.mem_cons_of_mem _ t_578)) (fun _ h9 => h9) rfl rfl (okV_i (bd_sub kb_0 (by decide))) rfl rfl (by decide) (Or.inr (Or.inl (by decide))) (fx' := [(6, 3, a_9, .int 0), (6, 2, a_9, .int x_14), (5, 2, a_13, .int x_14), (2, 1, a0_, .ref a_13), (6, 1, a_9, .int x2_), (6, 0, a_9, .long x1_), (2, 5, a0_, .ref a_9), (7, 2, q1_, .ref a_8), (7, 3, q1_, .int y_4), (2, 0, a0_, .ref q0_), (2, 3, a0_, .ref q1_), (2, 4, a0_, .ref q2_), (8, 8, q0_, .int y0_)]) rfl dX2_beginTelling_102 (fun f H locs hM_17 g => ?_)
    refine lv_aload_n hx hb dX2_beginTelling_105 rfl (lv_at hl 2 rfl) ?_
    refine g_getk (C := RX2) (T := TX2) (N := 16) hx hb hts (mc_ inX2) hown hK g rfl 5 (by decide) rfl (hts _ (List.mem_cons_of_mem _ t_421)) (fun _ h9 => h9) 7 rfl dX2_beginTelling_106 ?_
    refine lv_iload hx hb dX2_beginTelling_109 (lv_at hl 5 rfl) ?_
    refine lv_iconst (v := (-1)) hx hb dX2_beginTelling_111 (by decide) ?_
    refine lv_icmp_ne (tgt := 119) hx hb dX2_beginTelling_112 (by decide) (fun c_18 => ?_) (fun c_18 => ?_)
    · have fc_18 := neq_f c_18
      refine lv_aload_n hx hb dX2_beginTelling_119 rfl (lv_at hl 2 rfl) ?_
      refine g_getk (C := RX2) (T := TX2) (N := 16) hx hb hts (mc_ inX2) hown hK g rfl 4 (by decide) rfl (hts _ (List.mem_cons_of_mem _ t_420)) (fun _ h9 => h9) 12 rfl dX2_beginTelling_120 ?_
      refine g_getr (K := 156) (C := RX9) (T := TX9) (N := 13) hx hb hts (mc_ inX9) hown hK g mq2_ kq2_ (by decide) rfl 9 (by decide) rfl (hts _ (List.mem_cons_of_mem _ t_510)) (fun _ h9 => h9) rfl dX2_beginTelling_123 (fun a_19 ma_19 ka_19 g => ?_)
      refine lv_iload hx hb dX2_beginTelling_126 (lv_at hl 0 rfl) ?_
      refine g_iald hx hb hK g ma_19 ka_19 (by decide) rfl (in_bd bx3_ (by decide)) dX2_beginTelling_128 (fun x_20 bx_20 cx_20 => ?_)
      refine g_put (C := RX6) (T := TX6) (N := 13) hx hb hts (mc_ inX6) tyX6 tyX6_ok nmX6 hown hK g ma_9 ka_9 (by decide) rfl 7 (by decide) (hts _ (List.mem_cons_of_mem _ t_580)) (fun _ h9 => h9) rfl rfl (okV_i (bd_sub bx_20 (by decide))) rfl rfl (by decide) (Or.inr (Or.inl (by decide))) (fx' := [(9, 9, q2_, .ref a_19), (6, 6, a_9, .int 0), (6, 3, a_9, .int 0), (6, 2, a_9, .int x_14), (5, 2, a_13, .int x_14), (2, 1, a0_, .ref a_13), (6, 1, a_9, .int x2_), (6, 0, a_9, .long x1_), (2, 5, a0_, .ref a_9), (7, 2, q1_, .ref a_8), (7, 3, q1_, .int y_4), (2, 0, a0_, .ref q0_), (2, 3, a0_, .ref q1_), (2, 4, a0_, .ref q2_), (8, 8, q0_, .int y0_)]) rfl dX2_beginTelling_129 (fun f H locs hM_21 g => ?_)
      refine lv_aload_n hx hb dX2_beginTelling_132 rfl (lv_at hl 2 rfl) ?_
      refine g_getk (C := RX2) (T := TX2) (N := 16) hx hb hts (mc_ inX2) hown hK g rfl 5 (by decide) rfl (hts _ (List.mem_cons_of_mem _ t_421)) (fun _ h9 => h9) 9 rfl dX2_beginTelling_133 ?_
      refine lv_iconst (v := 0) hx hb dX2_beginTelling_136 (by decide) ?_
      refine g_put (C := RX6) (T := TX6) (N := 13) hx hb hts (mc_ inX6) tyX6 tyX6_ok nmX6 hown hK g ma_9 ka_9 (by decide) rfl 8 (by decide) (hts _ (List.mem_cons_of_mem _ t_583)) (fun _ h9 => h9) rfl rfl (okV_i (bd_sub kb_0 (by decide))) rfl rfl (by decide) (Or.inr (Or.inl (by decide))) (fx' := [(6, 7, a_9, .int x_20), (9, 9, q2_, .ref a_19), (6, 6, a_9, .int 0), (6, 3, a_9, .int 0), (6, 2, a_9, .int x_14), (5, 2, a_13, .int x_14), (2, 1, a0_, .ref a_13), (6, 1, a_9, .int x2_), (6, 0, a_9, .long x1_), (2, 5, a0_, .ref a_9), (7, 2, q1_, .ref a_8), (7, 3, q1_, .int y_4), (2, 0, a0_, .ref q0_), (2, 3, a0_, .ref q1_), (2, 4, a0_, .ref q2_), (8, 8, q0_, .int y0_)]) rfl dX2_beginTelling_137 (fun f H locs hM_22 g => ?_)
      refine lv_aload_n hx hb dX2_beginTelling_140 rfl (lv_at hl 2 rfl) ?_
      refine g_getk (C := RX2) (T := TX2) (N := 16) hx hb hts (mc_ inX2) hown hK g rfl 5 (by decide) rfl (hts _ (List.mem_cons_of_mem _ t_421)) (fun _ h9 => h9) 10 rfl dX2_beginTelling_141 ?_
      refine lv_aload_n hx hb dX2_beginTelling_144 rfl (lv_at hl 2 rfl) ?_
      refine g_getk (C := RX2) (T := TX2) (N := 16) hx hb hts (mc_ inX2) hown hK g rfl 3 (by decide) rfl (hts _ (List.mem_cons_of_mem _ t_419)) (fun _ h9 => h9) 14 rfl dX2_beginTelling_145 ?_
      refine g_geti (C := RX7) (T := TX7) (N := 19) hx hb hts (mc_ inX7) hown hK g mq1_ kq1_ (by decide) rfl 15 (by decide) rfl (hts _ (List.mem_cons_of_mem _ t_675)) (fun _ h9 => h9) rfl dX2_beginTelling_148 (fun x_23 bx_23 g => ?_)
      refine g_put (C := RX6) (T := TX6) (N := 13) hx hb hts (mc_ inX6) tyX6 tyX6_ok nmX6 hown hK g ma_9 ka_9 (by decide) rfl 9 (by decide) (hts _ (List.mem_cons_of_mem _ t_585)) (fun _ h9 => h9) rfl rfl (okV_i bx_23) rfl rfl (by decide) (Or.inr (Or.inl (by decide))) (fx' := [(7, 15, q1_, .int x_23), (6, 8, a_9, .int 0), (6, 7, a_9, .int x_20), (9, 9, q2_, .ref a_19), (6, 6, a_9, .int 0), (6, 3, a_9, .int 0), (6, 2, a_9, .int x_14), (5, 2, a_13, .int x_14), (2, 1, a0_, .ref a_13), (6, 1, a_9, .int x2_), (6, 0, a_9, .long x1_), (2, 5, a0_, .ref a_9), (7, 2, q1_, .ref a_8), (7, 3, q1_, .int y_4), (2, 0, a0_, .ref q0_), (2, 3, a0_, .ref q1_), (2, 4, a0_, .ref q2_), (8, 8, q0_, .int y0_)]) rfl dX2_beginTelling_151 (fun f H locs hM_24 g => ?_)
      refine lv_aload_n hx hb dX2_beginTelling_154 rfl (lv_at hl 2 rfl) ?_
      refine g_getk (C := RX2) (T := TX2) (N := 16) hx hb hts (mc_ inX2) hown hK g rfl 5 (by decide) rfl (hts _ (List.mem_cons_of_mem _ t_421)) (fun _ h9 => h9) 12 rfl dX2_beginTelling_155 ?_
      refine lv_iconst (v := 0) hx hb dX2_beginTelling_158 (by decide) ?_
      refine g_put (C := RX6) (T := TX6) (N := 13) hx hb hts (mc_ inX6) tyX6 tyX6_ok nmX6 hown hK g ma_9 ka_9 (by decide) rfl 10 (by decide) (hts _ (List.mem_cons_of_mem _ t_588)) (fun _ h9 => h9) rfl rfl (okV_i (bd_sub kb_0 (by decide))) rfl rfl (by decide) (Or.inr (Or.inl (by decide))) (fx' := [(6, 9, a_9, .int x_23), (7, 15, q1_, .int x_23), (6, 8, a_9, .int 0), (6, 7, a_9, .int x_20), (9, 9, q2_, .ref a_19), (6, 6, a_9, .int 0), (6, 3, a_9, .int 0), (6, 2, a_9, .int x_14), (5, 2, a_13, .int x_14), (2, 1, a0_, .ref a_13), (6, 1, a_9, .int x2_), (6, 0, a_9, .long x1_), (2, 5, a0_, .ref a_9), (7, 2, q1_, .ref a_8), (7, 3, q1_, .int y_4), (2, 0, a0_, .ref q0_), (2, 3, a0_, .ref q1_), (2, 4, a0_, .ref q2_), (8, 8, q0_, .int y0_)]) rfl dX2_beginTelling_159 (fun f H locs hM_25 g => ?_)
      refine lv_aload_n hx hb dX2_beginTelling_162 rfl (lv_at hl 2 rfl) ?_
      refine g_getk (C := RX2) (T := TX2) (N := 16) hx hb hts (mc_ inX2) hown hK g rfl 5 (by decide) rfl (hts _ (List.mem_cons_of_mem _ t_421)) (fun _ h9 => h9) 13 rfl dX2_beginTelling_163 ?_
      refine lv_aload_n hx hb dX2_beginTelling_166 rfl (lv_at hl 2 rfl) ?_
      refine g_getk (C := RX2) (T := TX2) (N := 16) hx hb hts (mc_ inX2) hown hK g rfl 3 (by decide) rfl (hts _ (List.mem_cons_of_mem _ t_419)) (fun _ h9 => h9) 17 rfl dX2_beginTelling_167 ?_
      refine g_geti (C := RX7) (T := TX7) (N := 19) hx hb hts (mc_ inX7) hown hK g mq1_ kq1_ (by decide) rfl 13 (by decide) rfl (hts _ (List.mem_cons_of_mem _ t_668)) (fun _ h9 => h9) rfl dX2_beginTelling_170 (fun x_26 bx_26 g => ?_)
      refine g_put (C := RX6) (T := TX6) (N := 13) hx hb hts (mc_ inX6) tyX6 tyX6_ok nmX6 hown hK g ma_9 ka_9 (by decide) rfl 11 (by decide) (hts _ (List.mem_cons_of_mem _ t_589)) (fun _ h9 => h9) rfl rfl (okV_i bx_26) rfl rfl (by decide) (Or.inr (Or.inl (by decide))) (fx' := [(7, 13, q1_, .int x_26), (6, 10, a_9, .int 0), (6, 9, a_9, .int x_23), (7, 15, q1_, .int x_23), (6, 8, a_9, .int 0), (6, 7, a_9, .int x_20), (9, 9, q2_, .ref a_19), (6, 6, a_9, .int 0), (6, 3, a_9, .int 0), (6, 2, a_9, .int x_14), (5, 2, a_13, .int x_14), (2, 1, a0_, .ref a_13), (6, 1, a_9, .int x2_), (6, 0, a_9, .long x1_), (2, 5, a0_, .ref a_9), (7, 2, q1_, .ref a_8), (7, 3, q1_, .int y_4), (2, 0, a0_, .ref q0_), (2, 3, a0_, .ref q1_), (2, 4, a0_, .ref q2_), (8, 8, q0_, .int y0_)]) rfl dX2_beginTelling_173 (fun f H locs hM_27 g => ?_)
      refine lv_aload_n hx hb dX2_beginTelling_176 rfl (lv_at hl 2 rfl) ?_
      refine g_getk (C := RX2) (T := TX2) (N := 16) hx hb hts (mc_ inX2) hown hK g rfl 5 (by decide) rfl (hts _ (List.mem_cons_of_mem _ t_421)) (fun _ h9 => h9) 15 rfl dX2_beginTelling_177 ?_
      refine lv_iconst (v := 0) hx hb dX2_beginTelling_180 (by decide) ?_
      refine g_put (C := RX6) (T := TX6) (N := 13) hx hb hts (mc_ inX6) tyX6 tyX6_ok nmX6 hown hK g ma_9 ka_9 (by decide) rfl 12 (by decide) (hts _ (List.mem_cons_of_mem _ t_591)) (fun _ h9 => h9) rfl rfl (okV_i (bd_sub kb_0 (by decide))) rfl rfl (by decide) (Or.inr (Or.inl (by decide))) (fx' := [(6, 11, a_9, .int x_26), (7, 13, q1_, .int x_26), (6, 10, a_9, .int 0), (6, 9, a_9, .int x_23), (7, 15, q1_, .int x_23), (6, 8, a_9, .int 0), (6, 7, a_9, .int x_20), (9, 9, q2_, .ref a_19), (6, 6, a_9, .int 0), (6, 3, a_9, .int 0), (6, 2, a_9, .int x_14), (5, 2, a_13, .int x_14), (2, 1, a0_, .ref a_13), (6, 1, a_9, .int x2_), (6, 0, a_9, .long x1_), (2, 5, a0_, .ref a_9), (7, 2, q1_, .ref a_8), (7, 3, q1_, .int y_4), (2, 0, a0_, .ref q0_), (2, 3, a0_, .ref q1_), (2, 4, a0_, .ref q2_), (8, 8, q0_, .int y0_)]) rfl dX2_beginTelling_181 (fun f H locs hM_28 g => ?_)
      refine lv_aload_n hx hb dX2_beginTelling_184 rfl (lv_at hl 2 rfl) ?_
      refine g_getk (C := RX2) (T := TX2) (N := 16) hx hb hts (mc_ inX2) hown hK g rfl 4 (by decide) rfl (hts _ (List.mem_cons_of_mem _ t_420)) (fun _ h9 => h9) 21 rfl dX2_beginTelling_185 ?_
      refine g_getk (C := RX9) (T := TX9) (N := 13) hx hb hts (mc_ inX9) hown hK g rfl 9 (by decide) rfl (hts _ (List.mem_cons_of_mem _ t_510)) (fun _ h9 => h9) 8 rfl dX2_beginTelling_188 ?_
      refine lv_iload hx hb dX2_beginTelling_191 (lv_at hl 0 rfl) ?_
      refine lv_iload hx hb dX2_beginTelling_193 (lv_at hl 1 rfl) ?_
      refine g_iast hx hb hK g ma_19 ka_19 (by decide) rfl (in_bd bx3_ (by decide)) b_3 (by decide) dX2_beginTelling_195 (fun f H locs hM_29 g => ?_)
      refine lv_aload_n hx hb dX2_beginTelling_196 rfl (lv_at hl 2 rfl) ?_
      refine g_getk (C := RX2) (T := TX2) (N := 16) hx hb hts (mc_ inX2) hown hK g rfl 4 (by decide) rfl (hts _ (List.mem_cons_of_mem _ t_420)) (fun _ h9 => h9) 21 rfl dX2_beginTelling_197 ?_
      refine lv_aload_n hx hb dX2_beginTelling_200 rfl (lv_at hl 2 rfl) ?_
      refine g_getk (C := RX2) (T := TX2) (N := 16) hx hb hts (mc_ inX2) hown hK g rfl 4 (by decide) rfl (hts _ (List.mem_cons_of_mem _ t_420)) (fun _ h9 => h9) 21 rfl dX2_beginTelling_201 ?_
      refine g_geti (C := RX9) (T := TX9) (N := 13) hx hb hts (mc_ inX9) hown hK g mq2_ kq2_ (by decide) rfl 8 (by decide) rfl (hts _ (List.mem_cons_of_mem _ t_502)) (fun _ h9 => h9) rfl dX2_beginTelling_204 (fun x_30 bx_30 g => ?_)
      refine lv_iload hx hb dX2_beginTelling_207 (lv_at hl 0 rfl) ?_
      refine lv_iconst (v := 1) hx hb dX2_beginTelling_209 (by decide) ?_
      refine lv_iadd hx hb dX2_beginTelling_210 ?_
      refine lv_topi (fun y_31 ey_31 => ?_)
      have ty_31 := add_bd ey_31 bx3_ kb_1 (by decide)
      have b_32 : bd 1 12 y_31 := add_rg ty_31 bx3_ kb_1 (by decide)
      refine va_mmax hx hb (hml.trans hl.1.symm) hown (hts _ (List.mem_cons_of_mem _ t_1312)) (hts _ (List.mem_cons_of_mem _ t_1041)) (hts _ (List.mem_cons_of_mem _ t_204)) (hts _ (List.mem_cons_of_mem _ t_1042)) (Nat.le_of_ble_eq_true rfl) (Nat.le_of_ble_eq_true rfl) (Nat.le_of_ble_eq_true rfl) (Nat.le_of_ble_eq_true rfl) dX2_beginTelling_211 ?_
      refine lv_topi (fun y_33 ey_33 => ?_)
      have ty_33 : y_33.toInt = max x_30.toInt y_31.toInt := by rw [ey_33]; exact mmax_ok _ _
      have b_34 : bd 1 12 y_33 := max_rg ty_33 bx_30 b_32 (by decide)
      refine g_put (C := RX9) (T := TX9) (N := 13) hx hb hts (mc_ inX9) tyX9 tyX9_ok nmX9 hown hK g mq2_ kq2_ (by decide) rfl 8 (by decide) (hts _ (List.mem_cons_of_mem _ t_502)) (fun _ h9 => h9) rfl rfl (okV_i (bd_sub b_34 (by decide))) rfl rfl (by decide) (Or.inr (Or.inl (by decide))) (fx' := [(6, 12, a_9, .int 0), (6, 11, a_9, .int x_26), (7, 13, q1_, .int x_26), (6, 10, a_9, .int 0), (6, 9, a_9, .int x_23), (7, 15, q1_, .int x_23), (6, 8, a_9, .int 0), (6, 7, a_9, .int x_20), (9, 9, q2_, .ref a_19), (6, 6, a_9, .int 0), (6, 3, a_9, .int 0), (6, 2, a_9, .int x_14), (5, 2, a_13, .int x_14), (2, 1, a0_, .ref a_13), (6, 1, a_9, .int x2_), (6, 0, a_9, .long x1_), (2, 5, a0_, .ref a_9), (7, 2, q1_, .ref a_8), (7, 3, q1_, .int y_4), (2, 0, a0_, .ref q0_), (2, 3, a0_, .ref q1_), (2, 4, a0_, .ref q2_), (8, 8, q0_, .int y0_)]) rfl dX2_beginTelling_214 (fun f H locs hM_35 g => ?_)
      refine lv_aload_n hx hb dX2_beginTelling_217 rfl (lv_at hl 2 rfl) ?_
      refine lv_iconst (v := 0) hx hb dX2_beginTelling_218 (by decide) ?_
      refine g_put (C := RX2) (T := TX2) (N := 16) hx hb hts (mc_ inX2) tyX2 tyX2_ok nmX2 hown hK g ma0_ ka0_ (by decide) rfl 6 (by decide) (hts _ (List.mem_cons_of_mem _ t_422)) (fun _ h9 => h9) rfl rfl (okV_i (bd_sub kb_0 (by decide))) rfl rfl (by decide) (Or.inr (Or.inl (by decide))) (fx' := [(9, 8, q2_, .int y_33), (6, 12, a_9, .int 0), (6, 11, a_9, .int x_26), (7, 13, q1_, .int x_26), (6, 10, a_9, .int 0), (6, 9, a_9, .int x_23), (7, 15, q1_, .int x_23), (6, 8, a_9, .int 0), (6, 7, a_9, .int x_20), (9, 9, q2_, .ref a_19), (6, 6, a_9, .int 0), (6, 3, a_9, .int 0), (6, 2, a_9, .int x_14), (5, 2, a_13, .int x_14), (2, 1, a0_, .ref a_13), (6, 1, a_9, .int x2_), (6, 0, a_9, .long x1_), (2, 5, a0_, .ref a_9), (7, 2, q1_, .ref a_8), (7, 3, q1_, .int y_4), (2, 0, a0_, .ref q0_), (2, 3, a0_, .ref q1_), (2, 4, a0_, .ref q2_), (8, 8, q0_, .int y0_)]) rfl dX2_beginTelling_219 (fun f H locs hM_36 g => ?_)
      subst hQ
      exact W.vret hx hb hr (fun t ht hW => ⟨⟨_, rfl, ⟨y_33, b_34, a_9, ⟨ma_9, ka_9⟩, y_4, b_5, 0, kb_0, (g.fcts [0, 1, 18, 20, 2] rfl)⟩, q3_of g hK ht hW⟩, g.2.2.1.F ht⟩) g.2.2.1.2.2 dX2_beginTelling_222
    · have fc_18 := eq_f c_18
      exact absurd fc_18 fc_7
  · have fc_7 := eq_f c_7
    have b_37 : bd 0 (-1) x3_ := eqX fc_7 bx3_ kb_m1 (by decide)
    exact bd_no b_37 (by decide)
set_option maxHeartbeats 4000000 in
set_option maxRecDepth 100000 in
theorem r_X2_readNumber_2 (l : Launch) (dC : Nat → ClassId) (dI : Nat → Nat → Nat) (L : List Nat) (kd : Nat → Nat) (tys : List (ClassId × FieldType)) (f0 : Nat → va_E) (sz : Nat) (hWT : WT L kd tys f0) (a0_ : Nat) (ma0_ : a0_ ∈ L) (ka0_ : kd a0_ = 2) (x1_ : Int32) (q0_ : Nat) (mq0_ : q0_ ∈ L) (kq0_ : kd q0_ = 8) (y0_ : Int32) (by0_ : bd 1201 1201 y0_) (y1_ : Int32) (by1_ : bd 1 7 y1_) (hfx : Fs L kd f0 [(2, 0, a0_, .ref q0_), (8, 6, q0_, .int y0_), (8, 8, q0_, .int y1_)]) : Met l yX2_readNumber (.code yX2_readNumber cX2_readNumber 4 (some .int) :: lw_g) ({ frames := 1, cells := 0, slots := 0, locals := 23 }) (va_Pc [.ref a0_, .int x1_] (P3 (dC, dI) L tys f0 sz)) (va_Qi (fun (r : Int32) (f : Nat → va_E) => (Fs L kd f [(8, 6, q0_, .int 1201)])) (Q3 (dC, dI) L kd tys [(8, 6)] [] f0 sz) (pA L sz)) 0 0 (pA L sz) := by
  refine Met.ofW (cc := cX2_readNumber) (maxL := 4) (ret := (some .int)) (by decide) rfl ?_
  intro p e s m args below meth c s₁ B hml hv
  obtain ⟨rfl, hsz, hP, hK, hD0⟩ := hv
  have hx := B.exec
  have hb := B.bytes
  have hr := B.returns
  have hts := atoms_spec (ws := (.code yX2_readNumber cX2_readNumber 4 (some .int) :: lw_g)) B.pre
  have hown : s.vm.findClass RX2 = some m.cls := findClass_of_methodNamed B.named
  have hlocks := B.notSynchronized
  subst hsz
  have g : G3 (dC, dI) L kd tys s f0 [(8, 6)] [] f0 s.heap [] [(2, 0, a0_, .ref q0_), (8, 6, q0_, .int y0_), (8, 8, q0_, .int y1_)] := G3.start hP hD0 hWT hfx
  have hl := lv_entry ([.ref a0_, .int x1_]) (n := 4) (Nat.le_of_ble_eq_true rfl)
  rw [lg_entry_eq]
  generalize (lg_sl ([.ref a0_, .int x1_]) ++ List.replicate (4 - (lg_sl ([.ref a0_, .int x1_])).length) Slot.unset).toArray = ls at hl ⊢
  have hl : lv_has ls 4 [(0, .ref a0_), (1, .int x1_)] := hl
  refine W_q (fun Q hQ => ?_)
  refine lv_aload_n hx hb dX2_readNumber_0 rfl (lv_at hl 0 rfl) ?_
  refine g_getk (C := RX2) (T := TX2) (N := 16) hx hb hts (mc_ inX2) hown hK g rfl 0 (by decide) rfl (hts _ (List.mem_cons_of_mem _ t_416)) (fun _ h9 => h9) 0 rfl dX2_readNumber_1 ?_
  refine g_calli (va_runV (As := []) (rest := []) ⟨hx, hb, hml, hown, hts⟩ (r_X8_kind_2 l dC dI L kd tys f0 s.heap.size g.2.2.2.1 q0_ mq0_ kq0_ y0_ by0_ (g.fcts [1] rfl)) (cwV 0 hts (gV_ t_1118 t_1119 t_1120 t_184 t_1121) rfl rfl rfl (by decide +kernel) ⟨(Nat.le_of_ble_eq_true rfl), (Nat.le_of_ble_eq_true rfl)⟩) (pre3V g hK mq0_ kq0_ (by decide) (q := (RX8, TX8, 10)) rfl) rfl rfl hl.1 rfl (lv_room (Nat.le_of_ble_eq_true rfl)) dX2_readNumber_4 ⟨(Nat.le_of_ble_eq_true rfl), (Nat.le_of_ble_eq_true rfl)⟩) g hK (by decide) (by decide) (fx' := [(2, 0, a0_, .ref q0_), (8, 6, q0_, .int y0_), (8, 8, q0_, .int y1_)]) rfl (fun r_1 fr_1 H locs hp hMr_1 g => ?_)
  obtain ⟨h_2, -⟩ := hp
  obtain rfl : r_1 = 0 := h_2
  refine lv_bipush (v := 45) hx hb dX2_readNumber_7 (by decide) ?_
  refine lv_icmp_ne (tgt := 16) hx hb dX2_readNumber_9 (by decide) (fun c_ => ?_) (fun c_ => absurd c_ (by decide))
  refine lv_iconst (v := 0) hx hb dX2_readNumber_16 (by decide) ?_
  refine lv_istore_n (lv' := [(2, .int 0), (0, .ref a0_), (1, .int x1_)]) hx hb dX2_readNumber_17 rfl hl (by decide) rfl (fun ls hl => ?_)
  refine lv_iload_n hx hb dX2_readNumber_18 rfl (lv_at hl 0 rfl) ?_
  refine lv_if_eq (tgt := 29) hx hb dX2_readNumber_19 (by decide) (fun c_ => ?_) (fun c_ => absurd (by decide) c_)
  refine lv_iload_n hx hb dX2_readNumber_29 rfl (lv_at hl 0 rfl) ?_
  refine lv_if_eq (tgt := 45) hx hb dX2_readNumber_30 (by decide) (fun c_ => ?_) (fun c_ => absurd (by decide) c_)
  refine lv_aload_n hx hb dX2_readNumber_45 rfl (lv_at hl 1 rfl) ?_
  refine g_getk (C := RX2) (T := TX2) (N := 16) hx hb hts (mc_ inX2) hown hK g rfl 0 (by decide) rfl (hts _ (List.mem_cons_of_mem _ t_416)) (fun _ h9 => h9) 0 rfl dX2_readNumber_46 ?_
  refine g_calll (va_runV (As := []) (rest := []) ⟨hx, hb, hml, hown, hts⟩ (r_X8_value l dC dI L kd tys fr_1 H.size g.2.2.2.1 q0_ mq0_ kq0_) (cwV 0 hts (gV_ t_1114 t_1115 t_1116 t_184 t_1117) rfl rfl rfl (by decide +kernel) ⟨(Nat.le_of_ble_eq_true rfl), (Nat.le_of_ble_eq_true rfl)⟩) (pre3V g hK mq0_ kq0_ (by decide) (q := (RX8, TX8, 10)) rfl) rfl rfl hl.1 rfl (lv_room (Nat.le_of_ble_eq_true rfl)) dX2_readNumber_49 ⟨(Nat.le_of_ble_eq_true rfl), (Nat.le_of_ble_eq_true rfl)⟩) g hK (by decide) (by decide) (fx' := [(2, 0, a0_, .ref q0_), (8, 6, q0_, .int y0_), (8, 8, q0_, .int y1_)]) rfl (fun r_3 fr_3 H locs hp hMr_3 g => ?_)
  refine lv_l2i hx hb dX2_readNumber_52 rfl ?_
  refine lv_topi (fun y_4 ey_4 => ?_)
  refine lv_istore_n (lv' := [(3, .int y_4), (2, .int 0), (0, .ref a0_), (1, .int x1_)]) hx hb dX2_readNumber_53 rfl hl (by decide) rfl (fun ls hl => ?_)
  refine lv_aload_n hx hb dX2_readNumber_54 rfl (lv_at hl 2 rfl) ?_
  refine g_getk (C := RX2) (T := TX2) (N := 16) hx hb hts (mc_ inX2) hown hK g rfl 0 (by decide) rfl (hts _ (List.mem_cons_of_mem _ t_416)) (fun _ h9 => h9) 0 rfl dX2_readNumber_55 ?_
  refine g_calli (va_runV (As := []) (rest := []) ⟨hx, hb, hml, hown, hts⟩ (r_X8_kind_2 l dC dI L kd tys fr_3 H.size g.2.2.2.1 q0_ mq0_ kq0_ y0_ by0_ (g.fcts [1] rfl)) (cwV 0 hts (gV_ t_1118 t_1119 t_1120 t_184 t_1121) rfl rfl rfl (by decide +kernel) ⟨(Nat.le_of_ble_eq_true rfl), (Nat.le_of_ble_eq_true rfl)⟩) (pre3V g hK mq0_ kq0_ (by decide) (q := (RX8, TX8, 10)) rfl) rfl rfl hl.1 rfl (lv_room (Nat.le_of_ble_eq_true rfl)) dX2_readNumber_58 ⟨(Nat.le_of_ble_eq_true rfl), (Nat.le_of_ble_eq_true rfl)⟩) g hK (by decide) (by decide) (fx' := [(2, 0, a0_, .ref q0_), (8, 6, q0_, .int y0_), (8, 8, q0_, .int y1_)]) rfl (fun r_5 fr_5 H locs hp hMr_5 g => ?_)
  obtain ⟨h_6, -⟩ := hp
  obtain rfl : r_5 = 0 := h_6
  refine lv_iconst (v := 4) hx hb dX2_readNumber_61 (by decide) ?_
  refine lv_icmp_eq (tgt := 83) hx hb dX2_readNumber_62 (by decide) (fun c_ => absurd c_ (by decide)) (fun c_ => ?_)
  refine lv_aload_n hx hb dX2_readNumber_65 rfl (lv_at hl 2 rfl) ?_
  refine g_getk (C := RX2) (T := TX2) (N := 16) hx hb hts (mc_ inX2) hown hK g rfl 0 (by decide) rfl (hts _ (List.mem_cons_of_mem _ t_416)) (fun _ h9 => h9) 0 rfl dX2_readNumber_66 ?_
  refine lv_iconst (v := 1) hx hb dX2_readNumber_69 (by decide) ?_
  refine lv_aload_n hx hb dX2_readNumber_70 rfl (lv_at hl 2 rfl) ?_
  refine g_getk (C := RX2) (T := TX2) (N := 16) hx hb hts (mc_ inX2) hown hK g rfl 0 (by decide) rfl (hts _ (List.mem_cons_of_mem _ t_416)) (fun _ h9 => h9) 0 rfl dX2_readNumber_71 ?_
  refine g_calli (va_runV (As := []) (rest := [.int 1, .ref q0_]) ⟨hx, hb, hml, hown, hts⟩ (r_X8_place l dC dI L kd tys fr_5 H.size g.2.2.2.1 q0_ mq0_ kq0_) (cwV 0 hts (gV_ t_1110 t_1111 t_1112 t_184 t_1113) rfl rfl rfl (by decide +kernel) ⟨(Nat.le_of_ble_eq_true rfl), (Nat.le_of_ble_eq_true rfl)⟩) (pre3V g hK mq0_ kq0_ (by decide) (q := (RX8, TX8, 10)) rfl) rfl rfl hl.1 rfl (lv_room (Nat.le_of_ble_eq_true rfl)) dX2_readNumber_74 ⟨(Nat.le_of_ble_eq_true rfl), (Nat.le_of_ble_eq_true rfl)⟩) g hK (by decide) (by decide) (fx' := [(2, 0, a0_, .ref q0_), (8, 6, q0_, .int y0_), (8, 8, q0_, .int y1_)]) rfl (fun r_7 fr_7 H locs hp hMr_7 g => ?_)
  have kb_1 : bd 1 1 (1 : Int32) := ⟨by decide, by decide⟩
  refine g_callv (va_runV (As := [.int 1, .int r_7]) (rest := []) ⟨hx, hb, hml, hown, hts⟩ (r_X8_fail_2 l dC dI L kd tys fr_7 H.size g.2.2.2.1 q0_ mq0_ kq0_ 1 (bd_sub kb_1 (by decide)) r_7 y1_ by1_ (g.fcts [2] rfl)) (cwV 2 hts (gV_ t_1122 t_1107 t_1108 t_184 t_1109) rfl rfl rfl (by decide +kernel) ⟨(Nat.le_of_ble_eq_true rfl), (Nat.le_of_ble_eq_true rfl)⟩) (pre3V g hK mq0_ kq0_ (by decide) (q := (RX8, TX8, 10)) rfl) rfl rfl hl.1 rfl (lv_room (Nat.le_of_ble_eq_true rfl)) dX2_readNumber_77 ⟨(Nat.le_of_ble_eq_true rfl), (Nat.le_of_ble_eq_true rfl)⟩) g hK (by decide) (by decide) (fx' := [(2, 0, a0_, .ref q0_), (8, 8, q0_, .int y1_)]) rfl (fun fr_8 H locs hp hMr_8 g => ?_)
  have hF_9 := hp
  have g := g.more hF_9
  refine lv_goto (tgt := 103) hx hb dX2_readNumber_80 (by decide) ?_
  refine lv_aload_n hx hb dX2_readNumber_103 rfl (lv_at hl 2 rfl) ?_
  refine g_getk (C := RX2) (T := TX2) (N := 16) hx hb hts (mc_ inX2) hown hK g rfl 0 (by decide) rfl (hts _ (List.mem_cons_of_mem _ t_416)) (fun _ h9 => h9) 1 rfl dX2_readNumber_104 ?_
  have kb_1201 : bd 1201 1201 (1201 : Int32) := ⟨by decide, by decide⟩
  refine g_callv (va_runV (As := []) (rest := []) ⟨hx, hb, hml, hown, hts⟩ (r_X8_next_2 l dC dI L kd tys fr_8 H.size g.2.2.2.1 q0_ mq0_ kq0_ 1201 kb_1201 (g.fcts [0] rfl)) (cwV 0 hts (gV_ t_1131 t_1103 t_1104 t_184 t_1105) rfl rfl rfl (by decide +kernel) ⟨(Nat.le_of_ble_eq_true rfl), (Nat.le_of_ble_eq_true rfl)⟩) (pre3V g hK mq0_ kq0_ (by decide) (q := (RX8, TX8, 10)) rfl) rfl rfl hl.1 rfl (lv_room (Nat.le_of_ble_eq_true rfl)) dX2_readNumber_107 ⟨(Nat.le_of_ble_eq_true rfl), (Nat.le_of_ble_eq_true rfl)⟩) g hK (by decide) (by decide) (fx' := [(8, 6, q0_, .int 1201), (2, 0, a0_, .ref q0_), (8, 8, q0_, .int y1_)]) rfl (fun fr_10 H locs hp hMr_10 g => ?_)
  refine lv_iload_n hx hb dX2_readNumber_110 rfl (lv_at hl 0 rfl) ?_
  subst hQ
  exact W.iret (v := y_4) hx hb hr (fun t ht hW => ⟨⟨_, _, rfl, (g.fcts [0] rfl), q3_of g hK ht hW⟩, g.2.2.1.F ht⟩) g.2.2.1.2.2 dX2_readNumber_111
