set_option maxHeartbeats 4000000 in
set_option maxRecDepth 100000 in
theorem r_X2_readAsked_9 (l : Launch) (dC : Nat → ClassId) (dI : Nat → Nat → Nat) (L : List Nat) (kd : Nat → Nat) (tys : List (ClassId × FieldType)) (f0 : Nat → va_E) (sz : Nat) (hWT : WT L kd tys f0) (a0_ : Nat) (ma0_ : a0_ ∈ L) (ka0_ : kd a0_ = 2) (x1_ : Int32) (bx1_ : bd 1 1 x1_) (q0_ : Nat) (mq0_ : q0_ ∈ L) (kq0_ : kd q0_ = 8) (q1_ : Nat) (mq1_ : q1_ ∈ L) (kq1_ : kd q1_ = 5) (q2_ : Nat) (mq2_ : q2_ ∈ L) (kq2_ : kd q2_ = 0) (q3_ : Nat) (mq3_ : q3_ ∈ L) (kq3_ : kd q3_ = 7) (q7_ : Nat) (mq7_ : q7_ ∈ L) (kq7_ : kd q7_ = 9) (y0_ : Int32) (by0_ : bd 1 500 y0_) (y1_ : Int32) (by1_ : bd 0 0 y1_) (y2_ : Int32) (by2_ : bd 1 96 y2_) (y3_ : Int32) (by3_ : bd 0 7 y3_) (y4_ : Int32) (by4_ : bd 0 7 y4_) (T_ : Nat) (J_ : Int32 → Prop) (hGeq2_ : eOK f0 q2_) (hGcq3_ : cOK f0 q3_) (hGdq3_ : dOK L kd f0 q3_ T_) (hGsq3_ : jS f0 q3_ J_) (hfx : Fs L kd f0 [(2, 0, a0_, .ref q0_), (2, 1, a0_, .ref q1_), (2, 2, a0_, .ref q2_), (2, 3, a0_, .ref q3_), (0, 0, q2_, .ref q0_), (0, 1, q2_, .ref q1_), (5, 0, q1_, .ref q3_), (5, 1, q1_, .ref q7_), (7, 13, q3_, .int y0_), (8, 8, q0_, .int y1_), (7, 3, q3_, .int y2_), (5, 2, q1_, .int y3_), (7, 1, q3_, .int y4_)]) : Met l yX2_readAsked (.code yX2_readAsked cX2_readAsked 2 none :: lw_g) ({ frames := 4, cells := 0, slots := 0, locals := 97 }) (va_Pc [.ref a0_, .int x1_] (P3 (dC, dI) L tys f0 sz)) (va_Qv (fun (f : Nat → va_E) => (eOK f q2_ ∧ cOK f q3_ ∧ dOK L kd f q3_ T_ ∧ jS f q3_ J_ ∧ Fs L kd f [(5, 8, q1_, .int 0), (5, 7, q1_, .int 0), (0, 2, q2_, .ref q3_), (8, 8, q0_, .int y1_)]) ∨ (eOK f q2_ ∧ dOK L kd f q3_ T_ ∧ ∃ z2_ : Int32, bd 1201 1201 z2_ ∧ ∃ z3_ : Int32, bd 1 7 z3_ ∧ Fs L kd f [(5, 8, q1_, .int 0), (5, 7, q1_, .int 0), (8, 6, q0_, .int z2_), (8, 8, q0_, .int z3_), (0, 2, q2_, .ref q3_)])) (Q3 (dC, dI) L kd tys [(0, 2), (0, 8), (0, 10), (0, 11), (0, 12), (0, 13), (5, 7), (5, 8), (7, 6), (7, 18), (8, 6), (8, 8), (8, 9)] [110, 111, 112, 113, 114, 115, 138, 139] f0 sz) (pA L sz)) 0 0 (pA L sz) := by
  refine Met.ofW (cc := cX2_readAsked) (maxL := 2) (ret := none) (by decide) rfl ?_
  intro p e s m args below meth c s₁ B hml hv
  obtain ⟨rfl, hsz, hP, hK, hD0⟩ := hv
  have hx := B.exec
  have hb := B.bytes
  have hr := B.returns
  have hts := atoms_spec (ws := (.code yX2_readAsked cX2_readAsked 2 none :: lw_g)) B.pre
  have hown : s.vm.findClass RX2 = some m.cls := findClass_of_methodNamed B.named
  have hlocks := B.notSynchronized
  subst hsz
  have g : G3 (dC, dI) L kd tys s f0 [(0, 2), (0, 8), (0, 10), (0, 11), (0, 12), (0, 13), (5, 7), (5, 8), (7, 6), (7, 18), (8, 6), (8, 8), (8, 9)] [110, 111, 112, 113, 114, 115, 138, 139] f0 s.heap [] [(2, 0, a0_, .ref q0_), (2, 1, a0_, .ref q1_), (2, 2, a0_, .ref q2_), (2, 3, a0_, .ref q3_), (0, 0, q2_, .ref q0_), (0, 1, q2_, .ref q1_), (5, 0, q1_, .ref q3_), (5, 1, q1_, .ref q7_), (7, 13, q3_, .int y0_), (8, 8, q0_, .int y1_), (7, 3, q3_, .int y2_), (5, 2, q1_, .int y3_), (7, 1, q3_, .int y4_)] := G3.start hP hD0 hWT hfx
  have hl := lv_entry ([.ref a0_, .int x1_]) (n := 2) (Nat.le_of_ble_eq_true rfl)
  rw [lg_entry_eq]
  generalize (lg_sl ([.ref a0_, .int x1_]) ++ List.replicate (2 - (lg_sl ([.ref a0_, .int x1_])).length) Slot.unset).toArray = ls at hl ⊢
  have hl : lv_has ls 2 [(0, .ref a0_), (1, .int x1_)] := hl
  refine W_q (fun Q hQ => ?_)
  refine lv_aload_n hx hb dX2_readAsked_0 rfl (lv_at hl 0 rfl) ?_
  refine g_getk (C := RX2) (T := TX2) (N := 16) hx hb hts (mc_ inX2) hown hK g rfl 1 (by decide) rfl (hts _ (List.mem_cons_of_mem _ t_417)) (fun _ h9 => h9) 1 rfl dX2_readAsked_1 ?_
  refine lv_iconst (v := 1) hx hb dX2_readAsked_4 (by decide) ?_
  have kb_1 : bd 1 1 (1 : Int32) := ⟨by decide, by decide⟩
  have go_ := g
  refine g_put (C := RX5) (T := TX5) (N := 9) hx hb hts (mc_ inX5) tyX5 tyX5_ok nmX5 hown hK g mq1_ kq1_ (by decide) rfl 7 (by decide) (hts _ (List.mem_cons_of_mem _ t_344)) (fun _ h9 => h9) rfl rfl (okV_i (bd_sub kb_1 (by decide))) rfl rfl (by decide) (Or.inr (Or.inl (by decide))) (fx' := [(2, 0, a0_, .ref q0_), (2, 1, a0_, .ref q1_), (2, 2, a0_, .ref q2_), (2, 3, a0_, .ref q3_), (0, 0, q2_, .ref q0_), (0, 1, q2_, .ref q1_), (5, 0, q1_, .ref q3_), (5, 1, q1_, .ref q7_), (7, 13, q3_, .int y0_), (8, 8, q0_, .int y1_), (7, 3, q3_, .int y2_), (5, 2, q1_, .int y3_), (7, 1, q3_, .int y4_)]) rfl dX2_readAsked_5 (fun f H locs hM_1 g => ?_)
  have hG_2 := eOK.frame hM_1 go_.2.2.2.1 mq2_ kq2_ (by decide) (by decide) hGeq2_
  have hG_3 := cOK.frame hM_1 go_.2.2.2.1 mq3_ kq3_ (by decide) (by decide) hGcq3_
  have hG_4 := dOK.frame hM_1 go_.2.2.2.1 mq3_ kq3_ (by decide) (by decide) hGdq3_
  have hG_5 := jS.frame hM_1 go_.2.2.2.1 mq3_ kq3_ (by decide) (by decide) hGsq3_
  refine lv_aload_n hx hb dX2_readAsked_8 rfl (lv_at hl 0 rfl) ?_
  refine g_getk (C := RX2) (T := TX2) (N := 16) hx hb hts (mc_ inX2) hown hK g rfl 1 (by decide) rfl (hts _ (List.mem_cons_of_mem _ t_417)) (fun _ h9 => h9) 2 rfl dX2_readAsked_9 ?_
  refine lv_iload_n hx hb dX2_readAsked_12 rfl (lv_at hl 1 rfl) ?_
  have go_ := g
  refine g_put (C := RX5) (T := TX5) (N := 9) hx hb hts (mc_ inX5) tyX5 tyX5_ok nmX5 hown hK g mq1_ kq1_ (by decide) rfl 8 (by decide) (hts _ (List.mem_cons_of_mem _ t_347)) (fun _ h9 => h9) rfl rfl (okV_i (bd_sub bx1_ (by decide))) (nar_z (bd_sub bx1_ (by decide) : bd 0 1 _).1 (bd_sub bx1_ (by decide) : bd 0 1 _).2) (fit_z (bd_sub bx1_ (by decide) : bd 0 1 _)) (by decide) (Or.inr (Or.inl (by decide))) (fx' := [(5, 7, q1_, .int 1), (2, 0, a0_, .ref q0_), (2, 1, a0_, .ref q1_), (2, 2, a0_, .ref q2_), (2, 3, a0_, .ref q3_), (0, 0, q2_, .ref q0_), (0, 1, q2_, .ref q1_), (5, 0, q1_, .ref q3_), (5, 1, q1_, .ref q7_), (7, 13, q3_, .int y0_), (8, 8, q0_, .int y1_), (7, 3, q3_, .int y2_), (5, 2, q1_, .int y3_), (7, 1, q3_, .int y4_)]) rfl dX2_readAsked_13 (fun f H locs hM_6 g => ?_)
  have hG_7 := eOK.frame hM_6 go_.2.2.2.1 mq2_ kq2_ (by decide) (by decide) hG_2
  have hG_8 := cOK.frame hM_6 go_.2.2.2.1 mq3_ kq3_ (by decide) (by decide) hG_3
  have hG_9 := dOK.frame hM_6 go_.2.2.2.1 mq3_ kq3_ (by decide) (by decide) hG_4
  have hG_10 := jS.frame hM_6 go_.2.2.2.1 mq3_ kq3_ (by decide) (by decide) hG_5
  refine lv_aload_n hx hb dX2_readAsked_16 rfl (lv_at hl 0 rfl) ?_
  refine g_getk (C := RX2) (T := TX2) (N := 16) hx hb hts (mc_ inX2) hown hK g rfl 2 (by decide) rfl (hts _ (List.mem_cons_of_mem _ t_418)) (fun _ h9 => h9) 4 rfl dX2_readAsked_17 ?_
  have go_ := g
  refine g_callv (va_runV (As := []) (rest := []) ⟨hx, hb, hml, hown, hts⟩ (r_X0_read l dC dI L kd tys f H.size g.2.2.2.1 q2_ mq2_ kq2_ q0_ mq0_ kq0_ q1_ mq1_ kq1_ q3_ mq3_ kq3_ q7_ mq7_ kq7_ y1_ by1_ T_ (fun j9 => jOK f q3_ j9) hG_7 hG_8 hG_9 (fun _ h9 => h9) (g.fcts [6, 7, 8, 9, 11] rfl)) (cwV 0 hts (gV_ t_1182 t_1183 t_1184 t_190 t_1185) rfl rfl rfl (by decide +kernel) ⟨(Nat.le_of_ble_eq_true rfl), (Nat.le_of_ble_eq_true rfl)⟩) (pre3V g hK mq2_ kq2_ (by decide) (q := (RX0, TX0, 14)) rfl) rfl rfl hl.1 rfl (lv_room (Nat.le_of_ble_eq_true rfl)) dX2_readAsked_20 ⟨(Nat.le_of_ble_eq_true rfl), (Nat.le_of_ble_eq_true rfl)⟩) g hK (by decide) (by decide) (fx' := [(5, 8, q1_, .int x1_), (5, 7, q1_, .int 1), (2, 0, a0_, .ref q0_), (2, 1, a0_, .ref q1_), (2, 2, a0_, .ref q2_), (2, 3, a0_, .ref q3_), (0, 0, q2_, .ref q0_), (0, 1, q2_, .ref q1_), (5, 0, q1_, .ref q3_), (5, 1, q1_, .ref q7_), (7, 13, q3_, .int y0_), (7, 3, q3_, .int y2_), (5, 2, q1_, .int y3_), (7, 1, q3_, .int y4_)]) rfl (fun fr_11 H locs hp hMr_11 g => ?_)
  rcases hp with ⟨hG_12, hG_13, hG_14, hG_15, hF_16⟩ | ⟨hG_17, hG_18, x_19, h_20, x_21, h_22, hF_23⟩
  · have g := g.more hF_16
    have hs_24 := jS.mv hG_10 hG_15
    refine lv_aload_n hx hb dX2_readAsked_23 rfl (lv_at hl 0 rfl) ?_
    refine g_getk (C := RX2) (T := TX2) (N := 16) hx hb hts (mc_ inX2) hown hK g rfl 1 (by decide) rfl (hts _ (List.mem_cons_of_mem _ t_417)) (fun _ h9 => h9) 5 rfl dX2_readAsked_24 ?_
    refine lv_iconst (v := 0) hx hb dX2_readAsked_27 (by decide) ?_
    have kb_0 : bd 0 0 (0 : Int32) := ⟨by decide, by decide⟩
    have go_ := g
    refine g_put (C := RX5) (T := TX5) (N := 9) hx hb hts (mc_ inX5) tyX5 tyX5_ok nmX5 hown hK g mq1_ kq1_ (by decide) rfl 7 (by decide) (hts _ (List.mem_cons_of_mem _ t_344)) (fun _ h9 => h9) rfl rfl (okV_i (bd_sub kb_0 (by decide))) rfl rfl (by decide) (Or.inr (Or.inl (by decide))) (fx' := [(0, 2, q2_, .ref q3_), (8, 8, q0_, .int y1_), (5, 8, q1_, .int x1_), (2, 0, a0_, .ref q0_), (2, 1, a0_, .ref q1_), (2, 2, a0_, .ref q2_), (2, 3, a0_, .ref q3_), (0, 0, q2_, .ref q0_), (0, 1, q2_, .ref q1_), (5, 0, q1_, .ref q3_), (5, 1, q1_, .ref q7_), (7, 13, q3_, .int y0_), (7, 3, q3_, .int y2_), (5, 2, q1_, .int y3_), (7, 1, q3_, .int y4_)]) rfl dX2_readAsked_28 (fun f H locs hM_25 g => ?_)
    have hG_26 := eOK.frame hM_25 go_.2.2.2.1 mq2_ kq2_ (by decide) (by decide) hG_12
    have hG_27 := cOK.frame hM_25 go_.2.2.2.1 mq3_ kq3_ (by decide) (by decide) hG_13
    have hG_28 := dOK.frame hM_25 go_.2.2.2.1 mq3_ kq3_ (by decide) (by decide) hG_14
    have hG_29 := jS.frame hM_25 go_.2.2.2.1 mq3_ kq3_ (by decide) (by decide) hs_24
    refine lv_aload_n hx hb dX2_readAsked_31 rfl (lv_at hl 0 rfl) ?_
    refine g_getk (C := RX2) (T := TX2) (N := 16) hx hb hts (mc_ inX2) hown hK g rfl 1 (by decide) rfl (hts _ (List.mem_cons_of_mem _ t_417)) (fun _ h9 => h9) 5 rfl dX2_readAsked_32 ?_
    refine lv_iconst (v := 0) hx hb dX2_readAsked_35 (by decide) ?_
    have go_ := g
    refine g_put (C := RX5) (T := TX5) (N := 9) hx hb hts (mc_ inX5) tyX5 tyX5_ok nmX5 hown hK g mq1_ kq1_ (by decide) rfl 8 (by decide) (hts _ (List.mem_cons_of_mem _ t_347)) (fun _ h9 => h9) rfl rfl (okV_i (bd_sub kb_0 (by decide))) rfl rfl (by decide) (Or.inr (Or.inl (by decide))) (fx' := [(5, 7, q1_, .int 0), (0, 2, q2_, .ref q3_), (8, 8, q0_, .int y1_), (2, 0, a0_, .ref q0_), (2, 1, a0_, .ref q1_), (2, 2, a0_, .ref q2_), (2, 3, a0_, .ref q3_), (0, 0, q2_, .ref q0_), (0, 1, q2_, .ref q1_), (5, 0, q1_, .ref q3_), (5, 1, q1_, .ref q7_), (7, 13, q3_, .int y0_), (7, 3, q3_, .int y2_), (5, 2, q1_, .int y3_), (7, 1, q3_, .int y4_)]) rfl dX2_readAsked_36 (fun f H locs hM_30 g => ?_)
    have hG_31 := eOK.frame hM_30 go_.2.2.2.1 mq2_ kq2_ (by decide) (by decide) hG_26
    have hG_32 := cOK.frame hM_30 go_.2.2.2.1 mq3_ kq3_ (by decide) (by decide) hG_27
    have hG_33 := dOK.frame hM_30 go_.2.2.2.1 mq3_ kq3_ (by decide) (by decide) hG_28
    have hG_34 := jS.frame hM_30 go_.2.2.2.1 mq3_ kq3_ (by decide) (by decide) hG_29
    refine lv_aload_n hx hb dX2_readAsked_39 rfl (lv_at hl 0 rfl) ?_
    refine g_getk (C := RX2) (T := TX2) (N := 16) hx hb hts (mc_ inX2) hown hK g rfl 3 (by decide) rfl (hts _ (List.mem_cons_of_mem _ t_419)) (fun _ h9 => h9) 7 rfl dX2_readAsked_40 ?_
    refine lv_bipush (v := 26) hx hb dX2_readAsked_43 (by decide) ?_
    refine lv_iconst (v := 0) hx hb dX2_readAsked_45 (by decide) ?_
    obtain ⟨a_35, ma_35, ka_35, g⟩ := g_factr g mq3_ kq3_ (by decide) 4 rfl
    obtain ⟨a_36, ma_36, ka_36, g⟩ := g_factr g mq3_ kq3_ (by decide) 5 rfl
    obtain ⟨x_37, bx_37, g⟩ := g_facti g mq3_ kq3_ (by decide) 6 rfl
    have kb_26 : bd 26 26 (26 : Int32) := ⟨by decide, by decide⟩
    have go_ := g
    refine g_callv (va_runV (As := [.int 26, .int 0]) (rest := []) ⟨hx, hb, hml, hown, hts⟩ (r_X7_emitN l dC dI L kd tys f H.size g.2.2.2.1 q3_ mq3_ kq3_ a_35 ma_35 ka_35 a_36 ma_36 ka_36 x_37 bx_37 T_ hG_33 (26 : Int32) (0 : Int32) (fun j9 => jOK f q3_ j9) hG_32 (fun _ h9 => h9) ⟨(fun h9 => ⟨(by have h9_0 := bx1_; unfold bd at h9_0; have h9_1 := bx_37; unfold bd at h9_1; have h9_2 := by0_; unfold bd at h9_2; have h9_3 := by1_; unfold bd at h9_3; have h9_4 := by2_; unfold bd at h9_4; have h9_5 := by3_; unfold bd at h9_5; have h9_6 := by4_; unfold bd at h9_6; have h8_0 := kb_0; unfold bd at h8_0; have h8_1 := kb_1; unfold bd at h8_1; have h8_2 := kb_26; unfold bd at h8_2; omega), (by have h9_0 := bx1_; unfold bd at h9_0; have h9_1 := bx_37; unfold bd at h9_1; have h9_2 := by0_; unfold bd at h9_2; have h9_3 := by1_; unfold bd at h9_3; have h9_4 := by2_; unfold bd at h9_4; have h9_5 := by3_; unfold bd at h9_5; have h9_6 := by4_; unfold bd at h9_6; have h8_0 := kb_0; unfold bd at h8_0; have h8_1 := kb_1; unfold bd at h8_1; have h8_2 := kb_26; unfold bd at h8_2; omega)⟩), (fun h9 => ⟨(by have h9_0 := bx1_; unfold bd at h9_0; have h9_1 := bx_37; unfold bd at h9_1; have h9_2 := by0_; unfold bd at h9_2; have h9_3 := by1_; unfold bd at h9_3; have h9_4 := by2_; unfold bd at h9_4; have h9_5 := by3_; unfold bd at h9_5; have h9_6 := by4_; unfold bd at h9_6; have h8_0 := kb_0; unfold bd at h8_0; have h8_1 := kb_1; unfold bd at h8_1; have h8_2 := kb_26; unfold bd at h8_2; omega), (by have h9_0 := bx1_; unfold bd at h9_0; have h9_1 := bx_37; unfold bd at h9_1; have h9_2 := by0_; unfold bd at h9_2; have h9_3 := by1_; unfold bd at h9_3; have h9_4 := by2_; unfold bd at h9_4; have h9_5 := by3_; unfold bd at h9_5; have h9_6 := by4_; unfold bd at h9_6; have h8_0 := kb_0; unfold bd at h8_0; have h8_1 := kb_1; unfold bd at h8_1; have h8_2 := kb_26; unfold bd at h8_2; omega)⟩), (fun h9 => ⟨(by have h9_0 := bx1_; unfold bd at h9_0; have h9_1 := bx_37; unfold bd at h9_1; have h9_2 := by0_; unfold bd at h9_2; have h9_3 := by1_; unfold bd at h9_3; have h9_4 := by2_; unfold bd at h9_4; have h9_5 := by3_; unfold bd at h9_5; have h9_6 := by4_; unfold bd at h9_6; have h8_0 := kb_0; unfold bd at h8_0; have h8_1 := kb_1; unfold bd at h8_1; have h8_2 := kb_26; unfold bd at h8_2; omega), (by have h9_0 := bx1_; unfold bd at h9_0; have h9_1 := bx_37; unfold bd at h9_1; have h9_2 := by0_; unfold bd at h9_2; have h9_3 := by1_; unfold bd at h9_3; have h9_4 := by2_; unfold bd at h9_4; have h9_5 := by3_; unfold bd at h9_5; have h9_6 := by4_; unfold bd at h9_6; have h8_0 := kb_0; unfold bd at h8_0; have h8_1 := kb_1; unfold bd at h8_1; have h8_2 := kb_26; unfold bd at h8_2; omega)⟩)⟩ (g.fcts [2, 1, 0] rfl)) (cwV 2 hts (gV_ t_1301 t_1204 t_1205 t_191 t_1206) rfl rfl rfl (by decide +kernel) ⟨(Nat.le_of_ble_eq_true rfl), (Nat.le_of_ble_eq_true rfl)⟩) (pre3V g hK mq3_ kq3_ (by decide) (q := (RX7, TX7, 19)) rfl) rfl rfl hl.1 rfl (lv_room (Nat.le_of_ble_eq_true rfl)) dX2_readAsked_46 ⟨(Nat.le_of_ble_eq_true rfl), (Nat.le_of_ble_eq_true rfl)⟩) g hK (by decide) (by decide) (fx' := [(7, 5, q3_, .ref a_36), (7, 4, q3_, .ref a_35), (5, 8, q1_, .int 0), (5, 7, q1_, .int 0), (0, 2, q2_, .ref q3_), (8, 8, q0_, .int y1_), (2, 0, a0_, .ref q0_), (2, 1, a0_, .ref q1_), (2, 2, a0_, .ref q2_), (2, 3, a0_, .ref q3_), (0, 0, q2_, .ref q0_), (0, 1, q2_, .ref q1_), (5, 0, q1_, .ref q3_), (5, 1, q1_, .ref q7_), (7, 13, q3_, .int y0_), (7, 3, q3_, .int y2_), (5, 2, q1_, .int y3_), (7, 1, q3_, .int y4_)]) rfl (fun fr_38 H locs hp hMr_38 g => ?_)
    obtain ⟨hG_39, hG_40, hG_41, hx_42, x_43, h_44, hF_45⟩ := hp
    have hG_46 := eOK.frame hMr_38 go_.2.2.2.1 mq2_ kq2_ (by decide) (by decide) hG_31
    have g := g.more hF_45
    have hs_47 := jS.mv hG_34 hG_41
    subst hQ
    exact W.vret hx hb hr (fun t ht hW => ⟨⟨_, rfl, Or.inl ⟨hG_46, hG_40, hG_39, hs_47, (g.fcts [3, 4, 5, 6] rfl)⟩, q3_of g hK ht hW⟩, g.2.2.1.F ht⟩) g.2.2.1.2.2 dX2_readAsked_49
  · have g := g.more hF_23
    refine lv_aload_n hx hb dX2_readAsked_23 rfl (lv_at hl 0 rfl) ?_
    refine g_getk (C := RX2) (T := TX2) (N := 16) hx hb hts (mc_ inX2) hown hK g rfl 1 (by decide) rfl (hts _ (List.mem_cons_of_mem _ t_417)) (fun _ h9 => h9) 6 rfl dX2_readAsked_24 ?_
    refine lv_iconst (v := 0) hx hb dX2_readAsked_27 (by decide) ?_
    have kb_0 : bd 0 0 (0 : Int32) := ⟨by decide, by decide⟩
    have go_ := g
    refine g_put (C := RX5) (T := TX5) (N := 9) hx hb hts (mc_ inX5) tyX5 tyX5_ok nmX5 hown hK g mq1_ kq1_ (by decide) rfl 7 (by decide) (hts _ (List.mem_cons_of_mem _ t_344)) (fun _ h9 => h9) rfl rfl (okV_i (bd_sub kb_0 (by decide))) rfl rfl (by decide) (Or.inr (Or.inl (by decide))) (fx' := [(8, 6, q0_, .int x_19), (8, 8, q0_, .int x_21), (0, 2, q2_, .ref q3_), (5, 8, q1_, .int x1_), (2, 0, a0_, .ref q0_), (2, 1, a0_, .ref q1_), (2, 2, a0_, .ref q2_), (2, 3, a0_, .ref q3_), (0, 0, q2_, .ref q0_), (0, 1, q2_, .ref q1_), (5, 0, q1_, .ref q3_), (5, 1, q1_, .ref q7_), (7, 13, q3_, .int y0_), (7, 3, q3_, .int y2_), (5, 2, q1_, .int y3_), (7, 1, q3_, .int y4_)]) rfl dX2_readAsked_28 (fun f H locs hM_48 g => ?_)
    have hG_49 := eOK.frame hM_48 go_.2.2.2.1 mq2_ kq2_ (by decide) (by decide) hG_17
    have hG_50 := dOK.frame hM_48 go_.2.2.2.1 mq3_ kq3_ (by decide) (by decide) hG_18
    refine lv_aload_n hx hb dX2_readAsked_31 rfl (lv_at hl 0 rfl) ?_
    refine g_getk (C := RX2) (T := TX2) (N := 16) hx hb hts (mc_ inX2) hown hK g rfl 1 (by decide) rfl (hts _ (List.mem_cons_of_mem _ t_417)) (fun _ h9 => h9) 6 rfl dX2_readAsked_32 ?_
    refine lv_iconst (v := 0) hx hb dX2_readAsked_35 (by decide) ?_
    have go_ := g
    refine g_put (C := RX5) (T := TX5) (N := 9) hx hb hts (mc_ inX5) tyX5 tyX5_ok nmX5 hown hK g mq1_ kq1_ (by decide) rfl 8 (by decide) (hts _ (List.mem_cons_of_mem _ t_347)) (fun _ h9 => h9) rfl rfl (okV_i (bd_sub kb_0 (by decide))) rfl rfl (by decide) (Or.inr (Or.inl (by decide))) (fx' := [(5, 7, q1_, .int 0), (8, 6, q0_, .int x_19), (8, 8, q0_, .int x_21), (0, 2, q2_, .ref q3_), (2, 0, a0_, .ref q0_), (2, 1, a0_, .ref q1_), (2, 2, a0_, .ref q2_), (2, 3, a0_, .ref q3_), (0, 0, q2_, .ref q0_), (0, 1, q2_, .ref q1_), (5, 0, q1_, .ref q3_), (5, 1, q1_, .ref q7_), (7, 13, q3_, .int y0_), (7, 3, q3_, .int y2_), (5, 2, q1_, .int y3_), (7, 1, q3_, .int y4_)]) rfl dX2_readAsked_36 (fun f H locs hM_51 g => ?_)
    have hG_52 := eOK.frame hM_51 go_.2.2.2.1 mq2_ kq2_ (by decide) (by decide) hG_49
    have hG_53 := dOK.frame hM_51 go_.2.2.2.1 mq3_ kq3_ (by decide) (by decide) hG_50
    refine lv_aload_n hx hb dX2_readAsked_39 rfl (lv_at hl 0 rfl) ?_
    refine g_getk (C := RX2) (T := TX2) (N := 16) hx hb hts (mc_ inX2) hown hK g rfl 3 (by decide) rfl (hts _ (List.mem_cons_of_mem _ t_419)) (fun _ h9 => h9) 8 rfl dX2_readAsked_40 ?_
    refine lv_bipush (v := 26) hx hb dX2_readAsked_43 (by decide) ?_
    refine lv_iconst (v := 0) hx hb dX2_readAsked_45 (by decide) ?_
    obtain ⟨a_54, ma_54, ka_54, g⟩ := g_factr g mq3_ kq3_ (by decide) 4 rfl
    obtain ⟨a_55, ma_55, ka_55, g⟩ := g_factr g mq3_ kq3_ (by decide) 5 rfl
    obtain ⟨x_56, bx_56, g⟩ := g_facti g mq3_ kq3_ (by decide) 6 rfl
    have go_ := g
    refine g_callv (va_runV (As := [.int 26, .int 0]) (rest := []) ⟨hx, hb, hml, hown, hts⟩ (r_X7_emitF l dC dI L kd tys f H.size g.2.2.2.1 q3_ mq3_ kq3_ a_54 ma_54 ka_54 a_55 ma_55 ka_55 x_56 bx_56 T_ hG_53 (26 : Int32) (0 : Int32) (g.fcts [2, 1, 0] rfl)) (cwV 2 hts (gV_ t_1301 t_1204 t_1205 t_191 t_1206) rfl rfl rfl (by decide +kernel) ⟨(Nat.le_of_ble_eq_true rfl), (Nat.le_of_ble_eq_true rfl)⟩) (pre3V g hK mq3_ kq3_ (by decide) (q := (RX7, TX7, 19)) rfl) rfl rfl hl.1 rfl (lv_room (Nat.le_of_ble_eq_true rfl)) dX2_readAsked_46 ⟨(Nat.le_of_ble_eq_true rfl), (Nat.le_of_ble_eq_true rfl)⟩) g hK (by decide) (by decide) (fx' := [(7, 5, q3_, .ref a_55), (7, 4, q3_, .ref a_54), (5, 8, q1_, .int 0), (5, 7, q1_, .int 0), (8, 6, q0_, .int x_19), (8, 8, q0_, .int x_21), (0, 2, q2_, .ref q3_), (2, 0, a0_, .ref q0_), (2, 1, a0_, .ref q1_), (2, 2, a0_, .ref q2_), (2, 3, a0_, .ref q3_), (0, 0, q2_, .ref q0_), (0, 1, q2_, .ref q1_), (5, 0, q1_, .ref q3_), (5, 1, q1_, .ref q7_), (7, 13, q3_, .int y0_), (7, 3, q3_, .int y2_), (5, 2, q1_, .int y3_), (7, 1, q3_, .int y4_)]) rfl (fun fr_57 H locs hp hMr_57 g => ?_)
    obtain ⟨hG_58, x_59, h_60, hF_61⟩ := hp
    have hG_62 := eOK.frame hMr_57 go_.2.2.2.1 mq2_ kq2_ (by decide) (by decide) hG_52
    have g := g.more hF_61
    subst hQ
    exact W.vret hx hb hr (fun t ht hW => ⟨⟨_, rfl, Or.inr (⟨hG_62, hG_58, x_19, h_20, x_21, h_22, (g.fcts [3, 4, 5, 6, 7] rfl)⟩), q3_of g hK ht hW⟩, g.2.2.1.F ht⟩) g.2.2.1.2.2 dX2_readAsked_49
set_option maxHeartbeats 4000000 in
set_option maxRecDepth 100000 in
theorem r_X2_readAsked_10 (l : Launch) (dC : Nat → ClassId) (dI : Nat → Nat → Nat) (L : List Nat) (kd : Nat → Nat) (tys : List (ClassId × FieldType)) (f0 : Nat → va_E) (sz : Nat) (hWT : WT L kd tys f0) (a0_ : Nat) (ma0_ : a0_ ∈ L) (ka0_ : kd a0_ = 2) (x1_ : Int32) (bx1_ : bd 0 0 x1_) (q0_ : Nat) (mq0_ : q0_ ∈ L) (kq0_ : kd q0_ = 8) (q1_ : Nat) (mq1_ : q1_ ∈ L) (kq1_ : kd q1_ = 5) (q2_ : Nat) (mq2_ : q2_ ∈ L) (kq2_ : kd q2_ = 0) (q3_ : Nat) (mq3_ : q3_ ∈ L) (kq3_ : kd q3_ = 7) (q7_ : Nat) (mq7_ : q7_ ∈ L) (kq7_ : kd q7_ = 9) (y0_ : Int32) (by0_ : bd 0 0 y0_) (y1_ : Int32) (by1_ : bd 1 500 y1_) (y2_ : Int32) (by2_ : bd 1 96 y2_) (y3_ : Int32) (by3_ : bd 0 7 y3_) (y4_ : Int32) (by4_ : bd 0 7 y4_) (T_ : Nat) (J_ : Int32 → Prop) (hGeq2_ : eOK f0 q2_) (hGcq3_ : cOK f0 q3_) (hGdq3_ : dOK L kd f0 q3_ T_) (hGsq3_ : jS f0 q3_ J_) (hfx : Fs L kd f0 [(2, 0, a0_, .ref q0_), (2, 1, a0_, .ref q1_), (2, 2, a0_, .ref q2_), (2, 3, a0_, .ref q3_), (0, 0, q2_, .ref q0_), (0, 1, q2_, .ref q1_), (5, 0, q1_, .ref q3_), (5, 1, q1_, .ref q7_), (8, 8, q0_, .int y0_), (7, 13, q3_, .int y1_), (7, 3, q3_, .int y2_), (5, 2, q1_, .int y3_), (7, 1, q3_, .int y4_)]) : Met l yX2_readAsked (.code yX2_readAsked cX2_readAsked 2 none :: lw_g) ({ frames := 4, cells := 0, slots := 0, locals := 97 }) (va_Pc [.ref a0_, .int x1_] (P3 (dC, dI) L tys f0 sz)) (va_Qv (fun (f : Nat → va_E) => (eOK f q2_ ∧ cOK f q3_ ∧ dOK L kd f q3_ T_ ∧ jS f q3_ J_ ∧ Fs L kd f [(5, 8, q1_, .int 0), (5, 7, q1_, .int 0), (0, 2, q2_, .ref q3_), (8, 8, q0_, .int y0_)]) ∨ (eOK f q2_ ∧ dOK L kd f q3_ T_ ∧ ∃ z2_ : Int32, bd 1201 1201 z2_ ∧ ∃ z3_ : Int32, bd 1 7 z3_ ∧ Fs L kd f [(5, 8, q1_, .int 0), (5, 7, q1_, .int 0), (8, 6, q0_, .int z2_), (8, 8, q0_, .int z3_), (0, 2, q2_, .ref q3_)])) (Q3 (dC, dI) L kd tys [(0, 2), (0, 8), (0, 10), (0, 11), (0, 12), (0, 13), (5, 7), (5, 8), (7, 6), (7, 18), (8, 6), (8, 8), (8, 9)] [110, 111, 112, 113, 114, 115, 138, 139] f0 sz) (pA L sz)) 0 0 (pA L sz) := by
  refine Met.ofW (cc := cX2_readAsked) (maxL := 2) (ret := none) (by decide) rfl ?_
  intro p e s m args below meth c s₁ B hml hv
  obtain ⟨rfl, hsz, hP, hK, hD0⟩ := hv
  have hx := B.exec
  have hb := B.bytes
  have hr := B.returns
  have hts := atoms_spec (ws := (.code yX2_readAsked cX2_readAsked 2 none :: lw_g)) B.pre
  have hown : s.vm.findClass RX2 = some m.cls := findClass_of_methodNamed B.named
  have hlocks := B.notSynchronized
  subst hsz
  have g : G3 (dC, dI) L kd tys s f0 [(0, 2), (0, 8), (0, 10), (0, 11), (0, 12), (0, 13), (5, 7), (5, 8), (7, 6), (7, 18), (8, 6), (8, 8), (8, 9)] [110, 111, 112, 113, 114, 115, 138, 139] f0 s.heap [] [(2, 0, a0_, .ref q0_), (2, 1, a0_, .ref q1_), (2, 2, a0_, .ref q2_), (2, 3, a0_, .ref q3_), (0, 0, q2_, .ref q0_), (0, 1, q2_, .ref q1_), (5, 0, q1_, .ref q3_), (5, 1, q1_, .ref q7_), (8, 8, q0_, .int y0_), (7, 13, q3_, .int y1_), (7, 3, q3_, .int y2_), (5, 2, q1_, .int y3_), (7, 1, q3_, .int y4_)] := G3.start hP hD0 hWT hfx
  have hl := lv_entry ([.ref a0_, .int x1_]) (n := 2) (Nat.le_of_ble_eq_true rfl)
  rw [lg_entry_eq]
  generalize (lg_sl ([.ref a0_, .int x1_]) ++ List.replicate (2 - (lg_sl ([.ref a0_, .int x1_])).length) Slot.unset).toArray = ls at hl ⊢
  have hl : lv_has ls 2 [(0, .ref a0_), (1, .int x1_)] := hl
  refine W_q (fun Q hQ => ?_)
  refine lv_aload_n hx hb dX2_readAsked_0 rfl (lv_at hl 0 rfl) ?_
  refine g_getk (C := RX2) (T := TX2) (N := 16) hx hb hts (mc_ inX2) hown hK g rfl 1 (by decide) rfl (hts _ (List.mem_cons_of_mem _ t_417)) (fun _ h9 => h9) 1 rfl dX2_readAsked_1 ?_
  refine lv_iconst (v := 1) hx hb dX2_readAsked_4 (by decide) ?_
  have kb_1 : bd 1 1 (1 : Int32) := ⟨by decide, by decide⟩
  have go_ := g
  refine g_put (C := RX5) (T := TX5) (N := 9) hx hb hts (mc_ inX5) tyX5 tyX5_ok nmX5 hown hK g mq1_ kq1_ (by decide) rfl 7 (by decide) (hts _ (List.mem_cons_of_mem _ t_344)) (fun _ h9 => h9) rfl rfl (okV_i (bd_sub kb_1 (by decide))) rfl rfl (by decide) (Or.inr (Or.inl (by decide))) (fx' := [(2, 0, a0_, .ref q0_), (2, 1, a0_, .ref q1_), (2, 2, a0_, .ref q2_), (2, 3, a0_, .ref q3_), (0, 0, q2_, .ref q0_), (0, 1, q2_, .ref q1_), (5, 0, q1_, .ref q3_), (5, 1, q1_, .ref q7_), (8, 8, q0_, .int y0_), (7, 13, q3_, .int y1_), (7, 3, q3_, .int y2_), (5, 2, q1_, .int y3_), (7, 1, q3_, .int y4_)]) rfl dX2_readAsked_5 (fun f H locs hM_1 g => ?_)
  have hG_2 := eOK.frame hM_1 go_.2.2.2.1 mq2_ kq2_ (by decide) (by decide) hGeq2_
  have hG_3 := cOK.frame hM_1 go_.2.2.2.1 mq3_ kq3_ (by decide) (by decide) hGcq3_
  have hG_4 := dOK.frame hM_1 go_.2.2.2.1 mq3_ kq3_ (by decide) (by decide) hGdq3_
  have hG_5 := jS.frame hM_1 go_.2.2.2.1 mq3_ kq3_ (by decide) (by decide) hGsq3_
  refine lv_aload_n hx hb dX2_readAsked_8 rfl (lv_at hl 0 rfl) ?_
  refine g_getk (C := RX2) (T := TX2) (N := 16) hx hb hts (mc_ inX2) hown hK g rfl 1 (by decide) rfl (hts _ (List.mem_cons_of_mem _ t_417)) (fun _ h9 => h9) 2 rfl dX2_readAsked_9 ?_
  refine lv_iload_n hx hb dX2_readAsked_12 rfl (lv_at hl 1 rfl) ?_
  have go_ := g
  refine g_put (C := RX5) (T := TX5) (N := 9) hx hb hts (mc_ inX5) tyX5 tyX5_ok nmX5 hown hK g mq1_ kq1_ (by decide) rfl 8 (by decide) (hts _ (List.mem_cons_of_mem _ t_347)) (fun _ h9 => h9) rfl rfl (okV_i (bd_sub bx1_ (by decide))) (nar_z (bd_sub bx1_ (by decide) : bd 0 1 _).1 (bd_sub bx1_ (by decide) : bd 0 1 _).2) (fit_z (bd_sub bx1_ (by decide) : bd 0 1 _)) (by decide) (Or.inr (Or.inl (by decide))) (fx' := [(5, 7, q1_, .int 1), (2, 0, a0_, .ref q0_), (2, 1, a0_, .ref q1_), (2, 2, a0_, .ref q2_), (2, 3, a0_, .ref q3_), (0, 0, q2_, .ref q0_), (0, 1, q2_, .ref q1_), (5, 0, q1_, .ref q3_), (5, 1, q1_, .ref q7_), (8, 8, q0_, .int y0_), (7, 13, q3_, .int y1_), (7, 3, q3_, .int y2_), (5, 2, q1_, .int y3_), (7, 1, q3_, .int y4_)]) rfl dX2_readAsked_13 (fun f H locs hM_6 g => ?_)
  have hG_7 := eOK.frame hM_6 go_.2.2.2.1 mq2_ kq2_ (by decide) (by decide) hG_2
  have hG_8 := cOK.frame hM_6 go_.2.2.2.1 mq3_ kq3_ (by decide) (by decide) hG_3
  have hG_9 := dOK.frame hM_6 go_.2.2.2.1 mq3_ kq3_ (by decide) (by decide) hG_4
  have hG_10 := jS.frame hM_6 go_.2.2.2.1 mq3_ kq3_ (by decide) (by decide) hG_5
  refine lv_aload_n hx hb dX2_readAsked_16 rfl (lv_at hl 0 rfl) ?_
  refine g_getk (C := RX2) (T := TX2) (N := 16) hx hb hts (mc_ inX2) hown hK g rfl 2 (by decide) rfl (hts _ (List.mem_cons_of_mem _ t_418)) (fun _ h9 => h9) 4 rfl dX2_readAsked_17 ?_
  have go_ := g
  refine g_callv (va_runV (As := []) (rest := []) ⟨hx, hb, hml, hown, hts⟩ (r_X0_read l dC dI L kd tys f H.size g.2.2.2.1 q2_ mq2_ kq2_ q0_ mq0_ kq0_ q1_ mq1_ kq1_ q3_ mq3_ kq3_ q7_ mq7_ kq7_ y0_ by0_ T_ (fun j9 => jOK f q3_ j9) hG_7 hG_8 hG_9 (fun _ h9 => h9) (g.fcts [6, 7, 8, 9, 10] rfl)) (cwV 0 hts (gV_ t_1182 t_1183 t_1184 t_190 t_1185) rfl rfl rfl (by decide +kernel) ⟨(Nat.le_of_ble_eq_true rfl), (Nat.le_of_ble_eq_true rfl)⟩) (pre3V g hK mq2_ kq2_ (by decide) (q := (RX0, TX0, 14)) rfl) rfl rfl hl.1 rfl (lv_room (Nat.le_of_ble_eq_true rfl)) dX2_readAsked_20 ⟨(Nat.le_of_ble_eq_true rfl), (Nat.le_of_ble_eq_true rfl)⟩) g hK (by decide) (by decide) (fx' := [(5, 8, q1_, .int x1_), (5, 7, q1_, .int 1), (2, 0, a0_, .ref q0_), (2, 1, a0_, .ref q1_), (2, 2, a0_, .ref q2_), (2, 3, a0_, .ref q3_), (0, 0, q2_, .ref q0_), (0, 1, q2_, .ref q1_), (5, 0, q1_, .ref q3_), (5, 1, q1_, .ref q7_), (7, 13, q3_, .int y1_), (7, 3, q3_, .int y2_), (5, 2, q1_, .int y3_), (7, 1, q3_, .int y4_)]) rfl (fun fr_11 H locs hp hMr_11 g => ?_)
  rcases hp with ⟨hG_12, hG_13, hG_14, hG_15, hF_16⟩ | ⟨hG_17, hG_18, x_19, h_20, x_21, h_22, hF_23⟩
  · have g := g.more hF_16
    have hs_24 := jS.mv hG_10 hG_15
    refine lv_aload_n hx hb dX2_readAsked_23 rfl (lv_at hl 0 rfl) ?_
    refine g_getk (C := RX2) (T := TX2) (N := 16) hx hb hts (mc_ inX2) hown hK g rfl 1 (by decide) rfl (hts _ (List.mem_cons_of_mem _ t_417)) (fun _ h9 => h9) 5 rfl dX2_readAsked_24 ?_
    refine lv_iconst (v := 0) hx hb dX2_readAsked_27 (by decide) ?_
    have kb_0 : bd 0 0 (0 : Int32) := ⟨by decide, by decide⟩
    have go_ := g
    refine g_put (C := RX5) (T := TX5) (N := 9) hx hb hts (mc_ inX5) tyX5 tyX5_ok nmX5 hown hK g mq1_ kq1_ (by decide) rfl 7 (by decide) (hts _ (List.mem_cons_of_mem _ t_344)) (fun _ h9 => h9) rfl rfl (okV_i (bd_sub kb_0 (by decide))) rfl rfl (by decide) (Or.inr (Or.inl (by decide))) (fx' := [(0, 2, q2_, .ref q3_), (8, 8, q0_, .int y0_), (5, 8, q1_, .int x1_), (2, 0, a0_, .ref q0_), (2, 1, a0_, .ref q1_), (2, 2, a0_, .ref q2_), (2, 3, a0_, .ref q3_), (0, 0, q2_, .ref q0_), (0, 1, q2_, .ref q1_), (5, 0, q1_, .ref q3_), (5, 1, q1_, .ref q7_), (7, 13, q3_, .int y1_), (7, 3, q3_, .int y2_), (5, 2, q1_, .int y3_), (7, 1, q3_, .int y4_)]) rfl dX2_readAsked_28 (fun f H locs hM_25 g => ?_)
    have hG_26 := eOK.frame hM_25 go_.2.2.2.1 mq2_ kq2_ (by decide) (by decide) hG_12
    have hG_27 := cOK.frame hM_25 go_.2.2.2.1 mq3_ kq3_ (by decide) (by decide) hG_13
    have hG_28 := dOK.frame hM_25 go_.2.2.2.1 mq3_ kq3_ (by decide) (by decide) hG_14
    have hG_29 := jS.frame hM_25 go_.2.2.2.1 mq3_ kq3_ (by decide) (by decide) hs_24
    refine lv_aload_n hx hb dX2_readAsked_31 rfl (lv_at hl 0 rfl) ?_
    refine g_getk (C := RX2) (T := TX2) (N := 16) hx hb hts (mc_ inX2) hown hK g rfl 1 (by decide) rfl (hts _ (List.mem_cons_of_mem _ t_417)) (fun _ h9 => h9) 5 rfl dX2_readAsked_32 ?_
    refine lv_iconst (v := 0) hx hb dX2_readAsked_35 (by decide) ?_
    have go_ := g
    refine g_put (C := RX5) (T := TX5) (N := 9) hx hb hts (mc_ inX5) tyX5 tyX5_ok nmX5 hown hK g mq1_ kq1_ (by decide) rfl 8 (by decide) (hts _ (List.mem_cons_of_mem _ t_347)) (fun _ h9 => h9) rfl rfl (okV_i (bd_sub kb_0 (by decide))) rfl rfl (by decide) (Or.inr (Or.inl (by decide))) (fx' := [(5, 7, q1_, .int 0), (0, 2, q2_, .ref q3_), (8, 8, q0_, .int y0_), (2, 0, a0_, .ref q0_), (2, 1, a0_, .ref q1_), (2, 2, a0_, .ref q2_), (2, 3, a0_, .ref q3_), (0, 0, q2_, .ref q0_), (0, 1, q2_, .ref q1_), (5, 0, q1_, .ref q3_), (5, 1, q1_, .ref q7_), (7, 13, q3_, .int y1_), (7, 3, q3_, .int y2_), (5, 2, q1_, .int y3_), (7, 1, q3_, .int y4_)]) rfl dX2_readAsked_36 (fun f H locs hM_30 g => ?_)
    have hG_31 := eOK.frame hM_30 go_.2.2.2.1 mq2_ kq2_ (by decide) (by decide) hG_26
    have hG_32 := cOK.frame hM_30 go_.2.2.2.1 mq3_ kq3_ (by decide) (by decide) hG_27
    have hG_33 := dOK.frame hM_30 go_.2.2.2.1 mq3_ kq3_ (by decide) (by decide) hG_28
    have hG_34 := jS.frame hM_30 go_.2.2.2.1 mq3_ kq3_ (by decide) (by decide) hG_29
    refine lv_aload_n hx hb dX2_readAsked_39 rfl (lv_at hl 0 rfl) ?_
    refine g_getk (C := RX2) (T := TX2) (N := 16) hx hb hts (mc_ inX2) hown hK g rfl 3 (by decide) rfl (hts _ (List.mem_cons_of_mem _ t_419)) (fun _ h9 => h9) 7 rfl dX2_readAsked_40 ?_
    refine lv_bipush (v := 26) hx hb dX2_readAsked_43 (by decide) ?_
    refine lv_iconst (v := 0) hx hb dX2_readAsked_45 (by decide) ?_
    obtain ⟨a_35, ma_35, ka_35, g⟩ := g_factr g mq3_ kq3_ (by decide) 4 rfl
    obtain ⟨a_36, ma_36, ka_36, g⟩ := g_factr g mq3_ kq3_ (by decide) 5 rfl
    obtain ⟨x_37, bx_37, g⟩ := g_facti g mq3_ kq3_ (by decide) 6 rfl
    have kb_26 : bd 26 26 (26 : Int32) := ⟨by decide, by decide⟩
    have go_ := g
    refine g_callv (va_runV (As := [.int 26, .int 0]) (rest := []) ⟨hx, hb, hml, hown, hts⟩ (r_X7_emitN l dC dI L kd tys f H.size g.2.2.2.1 q3_ mq3_ kq3_ a_35 ma_35 ka_35 a_36 ma_36 ka_36 x_37 bx_37 T_ hG_33 (26 : Int32) (0 : Int32) (fun j9 => jOK f q3_ j9) hG_32 (fun _ h9 => h9) ⟨(fun h9 => ⟨(by have h9_0 := bx1_; unfold bd at h9_0; have h9_1 := bx_37; unfold bd at h9_1; have h9_2 := by0_; unfold bd at h9_2; have h9_3 := by1_; unfold bd at h9_3; have h9_4 := by2_; unfold bd at h9_4; have h9_5 := by3_; unfold bd at h9_5; have h9_6 := by4_; unfold bd at h9_6; have h8_0 := kb_0; unfold bd at h8_0; have h8_1 := kb_1; unfold bd at h8_1; have h8_2 := kb_26; unfold bd at h8_2; omega), (by have h9_0 := bx1_; unfold bd at h9_0; have h9_1 := bx_37; unfold bd at h9_1; have h9_2 := by0_; unfold bd at h9_2; have h9_3 := by1_; unfold bd at h9_3; have h9_4 := by2_; unfold bd at h9_4; have h9_5 := by3_; unfold bd at h9_5; have h9_6 := by4_; unfold bd at h9_6; have h8_0 := kb_0; unfold bd at h8_0; have h8_1 := kb_1; unfold bd at h8_1; have h8_2 := kb_26; unfold bd at h8_2; omega)⟩), (fun h9 => ⟨(by have h9_0 := bx1_; unfold bd at h9_0; have h9_1 := bx_37; unfold bd at h9_1; have h9_2 := by0_; unfold bd at h9_2; have h9_3 := by1_; unfold bd at h9_3; have h9_4 := by2_; unfold bd at h9_4; have h9_5 := by3_; unfold bd at h9_5; have h9_6 := by4_; unfold bd at h9_6; have h8_0 := kb_0; unfold bd at h8_0; have h8_1 := kb_1; unfold bd at h8_1; have h8_2 := kb_26; unfold bd at h8_2; omega), (by have h9_0 := bx1_; unfold bd at h9_0; have h9_1 := bx_37; unfold bd at h9_1; have h9_2 := by0_; unfold bd at h9_2; have h9_3 := by1_; unfold bd at h9_3; have h9_4 := by2_; unfold bd at h9_4; have h9_5 := by3_; unfold bd at h9_5; have h9_6 := by4_; unfold bd at h9_6; have h8_0 := kb_0; unfold bd at h8_0; have h8_1 := kb_1; unfold bd at h8_1; have h8_2 := kb_26; unfold bd at h8_2; omega)⟩), (fun h9 => ⟨(by have h9_0 := bx1_; unfold bd at h9_0; have h9_1 := bx_37; unfold bd at h9_1; have h9_2 := by0_; unfold bd at h9_2; have h9_3 := by1_; unfold bd at h9_3; have h9_4 := by2_; unfold bd at h9_4; have h9_5 := by3_; unfold bd at h9_5; have h9_6 := by4_; unfold bd at h9_6; have h8_0 := kb_0; unfold bd at h8_0; have h8_1 := kb_1; unfold bd at h8_1; have h8_2 := kb_26; unfold bd at h8_2; omega), (by have h9_0 := bx1_; unfold bd at h9_0; have h9_1 := bx_37; unfold bd at h9_1; have h9_2 := by0_; unfold bd at h9_2; have h9_3 := by1_; unfold bd at h9_3; have h9_4 := by2_; unfold bd at h9_4; have h9_5 := by3_; unfold bd at h9_5; have h9_6 := by4_; unfold bd at h9_6; have h8_0 := kb_0; unfold bd at h8_0; have h8_1 := kb_1; unfold bd at h8_1; have h8_2 := kb_26; unfold bd at h8_2; omega)⟩)⟩ (g.fcts [2, 1, 0] rfl)) (cwV 2 hts (gV_ t_1301 t_1204 t_1205 t_191 t_1206) rfl rfl rfl (by decide +kernel) ⟨(Nat.le_of_ble_eq_true rfl), (Nat.le_of_ble_eq_true rfl)⟩) (pre3V g hK mq3_ kq3_ (by decide) (q := (RX7, TX7, 19)) rfl) rfl rfl hl.1 rfl (lv_room (Nat.le_of_ble_eq_true rfl)) dX2_readAsked_46 ⟨(Nat.le_of_ble_eq_true rfl), (Nat.le_of_ble_eq_true rfl)⟩) g hK (by decide) (by decide) (fx' := [(7, 5, q3_, .ref a_36), (7, 4, q3_, .ref a_35), (5, 8, q1_, .int 0), (5, 7, q1_, .int 0), (0, 2, q2_, .ref q3_), (8, 8, q0_, .int y0_), (2, 0, a0_, .ref q0_), (2, 1, a0_, .ref q1_), (2, 2, a0_, .ref q2_), (2, 3, a0_, .ref q3_), (0, 0, q2_, .ref q0_), (0, 1, q2_, .ref q1_), (5, 0, q1_, .ref q3_), (5, 1, q1_, .ref q7_), (7, 13, q3_, .int y1_), (7, 3, q3_, .int y2_), (5, 2, q1_, .int y3_), (7, 1, q3_, .int y4_)]) rfl (fun fr_38 H locs hp hMr_38 g => ?_)
    obtain ⟨hG_39, hG_40, hG_41, hx_42, x_43, h_44, hF_45⟩ := hp
    have hG_46 := eOK.frame hMr_38 go_.2.2.2.1 mq2_ kq2_ (by decide) (by decide) hG_31
    have g := g.more hF_45
    have hs_47 := jS.mv hG_34 hG_41
    subst hQ
    exact W.vret hx hb hr (fun t ht hW => ⟨⟨_, rfl, Or.inl ⟨hG_46, hG_40, hG_39, hs_47, (g.fcts [3, 4, 5, 6] rfl)⟩, q3_of g hK ht hW⟩, g.2.2.1.F ht⟩) g.2.2.1.2.2 dX2_readAsked_49
  · have g := g.more hF_23
    refine lv_aload_n hx hb dX2_readAsked_23 rfl (lv_at hl 0 rfl) ?_
    refine g_getk (C := RX2) (T := TX2) (N := 16) hx hb hts (mc_ inX2) hown hK g rfl 1 (by decide) rfl (hts _ (List.mem_cons_of_mem _ t_417)) (fun _ h9 => h9) 6 rfl dX2_readAsked_24 ?_
    refine lv_iconst (v := 0) hx hb dX2_readAsked_27 (by decide) ?_
    have kb_0 : bd 0 0 (0 : Int32) := ⟨by decide, by decide⟩
    have go_ := g
    refine g_put (C := RX5) (T := TX5) (N := 9) hx hb hts (mc_ inX5) tyX5 tyX5_ok nmX5 hown hK g mq1_ kq1_ (by decide) rfl 7 (by decide) (hts _ (List.mem_cons_of_mem _ t_344)) (fun _ h9 => h9) rfl rfl (okV_i (bd_sub kb_0 (by decide))) rfl rfl (by decide) (Or.inr (Or.inl (by decide))) (fx' := [(8, 6, q0_, .int x_19), (8, 8, q0_, .int x_21), (0, 2, q2_, .ref q3_), (5, 8, q1_, .int x1_), (2, 0, a0_, .ref q0_), (2, 1, a0_, .ref q1_), (2, 2, a0_, .ref q2_), (2, 3, a0_, .ref q3_), (0, 0, q2_, .ref q0_), (0, 1, q2_, .ref q1_), (5, 0, q1_, .ref q3_), (5, 1, q1_, .ref q7_), (7, 13, q3_, .int y1_), (7, 3, q3_, .int y2_), (5, 2, q1_, .int y3_), (7, 1, q3_, .int y4_)]) rfl dX2_readAsked_28 (fun f H locs hM_48 g => ?_)
    have hG_49 := eOK.frame hM_48 go_.2.2.2.1 mq2_ kq2_ (by decide) (by decide) hG_17
    have hG_50 := dOK.frame hM_48 go_.2.2.2.1 mq3_ kq3_ (by decide) (by decide) hG_18
    refine lv_aload_n hx hb dX2_readAsked_31 rfl (lv_at hl 0 rfl) ?_
    refine g_getk (C := RX2) (T := TX2) (N := 16) hx hb hts (mc_ inX2) hown hK g rfl 1 (by decide) rfl (hts _ (List.mem_cons_of_mem _ t_417)) (fun _ h9 => h9) 6 rfl dX2_readAsked_32 ?_
    refine lv_iconst (v := 0) hx hb dX2_readAsked_35 (by decide) ?_
    have go_ := g
    refine g_put (C := RX5) (T := TX5) (N := 9) hx hb hts (mc_ inX5) tyX5 tyX5_ok nmX5 hown hK g mq1_ kq1_ (by decide) rfl 8 (by decide) (hts _ (List.mem_cons_of_mem _ t_347)) (fun _ h9 => h9) rfl rfl (okV_i (bd_sub kb_0 (by decide))) rfl rfl (by decide) (Or.inr (Or.inl (by decide))) (fx' := [(5, 7, q1_, .int 0), (8, 6, q0_, .int x_19), (8, 8, q0_, .int x_21), (0, 2, q2_, .ref q3_), (2, 0, a0_, .ref q0_), (2, 1, a0_, .ref q1_), (2, 2, a0_, .ref q2_), (2, 3, a0_, .ref q3_), (0, 0, q2_, .ref q0_), (0, 1, q2_, .ref q1_), (5, 0, q1_, .ref q3_), (5, 1, q1_, .ref q7_), (7, 13, q3_, .int y1_), (7, 3, q3_, .int y2_), (5, 2, q1_, .int y3_), (7, 1, q3_, .int y4_)]) rfl dX2_readAsked_36 (fun f H locs hM_51 g => ?_)
    have hG_52 := eOK.frame hM_51 go_.2.2.2.1 mq2_ kq2_ (by decide) (by decide) hG_49
    have hG_53 := dOK.frame hM_51 go_.2.2.2.1 mq3_ kq3_ (by decide) (by decide) hG_50
    refine lv_aload_n hx hb dX2_readAsked_39 rfl (lv_at hl 0 rfl) ?_
    refine g_getk (C := RX2) (T := TX2) (N := 16) hx hb hts (mc_ inX2) hown hK g rfl 3 (by decide) rfl (hts _ (List.mem_cons_of_mem _ t_419)) (fun _ h9 => h9) 8 rfl dX2_readAsked_40 ?_
    refine lv_bipush (v := 26) hx hb dX2_readAsked_43 (by decide) ?_
    refine lv_iconst (v := 0) hx hb dX2_readAsked_45 (by decide) ?_
    obtain ⟨a_54, ma_54, ka_54, g⟩ := g_factr g mq3_ kq3_ (by decide) 4 rfl
    obtain ⟨a_55, ma_55, ka_55, g⟩ := g_factr g mq3_ kq3_ (by decide) 5 rfl
    obtain ⟨x_56, bx_56, g⟩ := g_facti g mq3_ kq3_ (by decide) 6 rfl
    have go_ := g
    refine g_callv (va_runV (As := [.int 26, .int 0]) (rest := []) ⟨hx, hb, hml, hown, hts⟩ (r_X7_emitF l dC dI L kd tys f H.size g.2.2.2.1 q3_ mq3_ kq3_ a_54 ma_54 ka_54 a_55 ma_55 ka_55 x_56 bx_56 T_ hG_53 (26 : Int32) (0 : Int32) (g.fcts [2, 1, 0] rfl)) (cwV 2 hts (gV_ t_1301 t_1204 t_1205 t_191 t_1206) rfl rfl rfl (by decide +kernel) ⟨(Nat.le_of_ble_eq_true rfl), (Nat.le_of_ble_eq_true rfl)⟩) (pre3V g hK mq3_ kq3_ (by decide) (q := (RX7, TX7, 19)) rfl) rfl rfl hl.1 rfl (lv_room (Nat.le_of_ble_eq_true rfl)) dX2_readAsked_46 ⟨(Nat.le_of_ble_eq_true rfl), (Nat.le_of_ble_eq_true rfl)⟩) g hK (by decide) (by decide) (fx' := [(7, 5, q3_, .ref a_55), (7, 4, q3_, .ref a_54), (5, 8, q1_, .int 0), (5, 7, q1_, .int 0), (8, 6, q0_, .int x_19), (8, 8, q0_, .int x_21), (0, 2, q2_, .ref q3_), (2, 0, a0_, .ref q0_), (2, 1, a0_, .ref q1_), (2, 2, a0_, .ref q2_), (2, 3, a0_, .ref q3_), (0, 0, q2_, .ref q0_), (0, 1, q2_, .ref q1_), (5, 0, q1_, .ref q3_), (5, 1, q1_, .ref q7_), (7, 13, q3_, .int y1_), (7, 3, q3_, .int y2_), (5, 2, q1_, .int y3_), (7, 1, q3_, .int y4_)]) rfl (fun fr_57 H locs hp hMr_57 g => ?_)
    obtain ⟨hG_58, x_59, h_60, hF_61⟩ := hp
    have hG_62 := eOK.frame hMr_57 go_.2.2.2.1 mq2_ kq2_ (by decide) (by decide) hG_52
    have g := g.more hF_61
    subst hQ
    exact W.vret hx hb hr (fun t ht hW => ⟨⟨_, rfl, Or.inr (⟨hG_62, hG_58, x_19, h_20, x_21, h_22, (g.fcts [3, 4, 5, 6, 7] rfl)⟩), q3_of g hK ht hW⟩, g.2.2.1.F ht⟩) g.2.2.1.2.2 dX2_readAsked_49
set_option maxHeartbeats 4000000 in
set_option maxRecDepth 100000 in
theorem r_X2_readAsked_11 (l : Launch) (dC : Nat → ClassId) (dI : Nat → Nat → Nat) (L : List Nat) (kd : Nat → Nat) (tys : List (ClassId × FieldType)) (f0 : Nat → va_E) (sz : Nat) (hWT : WT L kd tys f0) (a0_ : Nat) (ma0_ : a0_ ∈ L) (ka0_ : kd a0_ = 2) (x1_ : Int32) (bx1_ : bd 0 0 x1_) (q0_ : Nat) (mq0_ : q0_ ∈ L) (kq0_ : kd q0_ = 8) (q1_ : Nat) (mq1_ : q1_ ∈ L) (kq1_ : kd q1_ = 5) (q2_ : Nat) (mq2_ : q2_ ∈ L) (kq2_ : kd q2_ = 0) (q3_ : Nat) (mq3_ : q3_ ∈ L) (kq3_ : kd q3_ = 7) (q7_ : Nat) (mq7_ : q7_ ∈ L) (kq7_ : kd q7_ = 9) (y0_ : Int32) (by0_ : bd 1 500 y0_) (y1_ : Int32) (by1_ : bd 1201 1201 y1_) (y2_ : Int32) (by2_ : bd 1 7 y2_) (y3_ : Int32) (by3_ : bd 1 96 y3_) (y4_ : Int32) (by4_ : bd 0 7 y4_) (y5_ : Int32) (by5_ : bd 0 7 y5_) (T_ : Nat) (hGeq2_ : eOK f0 q2_) (hGdq3_ : dOK L kd f0 q3_ T_) (hfx : Fs L kd f0 [(2, 0, a0_, .ref q0_), (2, 1, a0_, .ref q1_), (2, 2, a0_, .ref q2_), (2, 3, a0_, .ref q3_), (0, 0, q2_, .ref q0_), (0, 1, q2_, .ref q1_), (5, 0, q1_, .ref q3_), (5, 1, q1_, .ref q7_), (7, 13, q3_, .int y0_), (8, 6, q0_, .int y1_), (8, 8, q0_, .int y2_), (7, 3, q3_, .int y3_), (5, 2, q1_, .int y4_), (7, 1, q3_, .int y5_)]) : Met l yX2_readAsked (.code yX2_readAsked cX2_readAsked 2 none :: lw_g) ({ frames := 1, cells := 0, slots := 0, locals := 22 }) (va_Pc [.ref a0_, .int x1_] (P3 (dC, dI) L tys f0 sz)) (va_Qv (fun (f : Nat → va_E) => (dOK L kd f q3_ T_ ∧ Fs L kd f [(5, 8, q1_, .int 0), (5, 7, q1_, .int 0), (0, 13, q2_, .int 0), (0, 12, q2_, .int 1), (0, 11, q2_, .int 0), (0, 10, q2_, .int 0), (0, 8, q2_, .int 0), (0, 2, q2_, .ref q3_)])) (Q3 (dC, dI) L kd tys [(0, 2), (0, 8), (0, 10), (0, 11), (0, 12), (0, 13), (5, 7), (5, 8), (7, 6)] [138, 139] f0 sz) (pA L sz)) 0 0 (pA L sz) := by
  refine Met.ofW (cc := cX2_readAsked) (maxL := 2) (ret := none) (by decide) rfl ?_
  intro p e s m args below meth c s₁ B hml hv
  obtain ⟨rfl, hsz, hP, hK, hD0⟩ := hv
  have hx := B.exec
  have hb := B.bytes
  have hr := B.returns
  have hts := atoms_spec (ws := (.code yX2_readAsked cX2_readAsked 2 none :: lw_g)) B.pre
  have hown : s.vm.findClass RX2 = some m.cls := findClass_of_methodNamed B.named
  have hlocks := B.notSynchronized
  subst hsz
  have g : G3 (dC, dI) L kd tys s f0 [(0, 2), (0, 8), (0, 10), (0, 11), (0, 12), (0, 13), (5, 7), (5, 8), (7, 6)] [138, 139] f0 s.heap [] [(2, 0, a0_, .ref q0_), (2, 1, a0_, .ref q1_), (2, 2, a0_, .ref q2_), (2, 3, a0_, .ref q3_), (0, 0, q2_, .ref q0_), (0, 1, q2_, .ref q1_), (5, 0, q1_, .ref q3_), (5, 1, q1_, .ref q7_), (7, 13, q3_, .int y0_), (8, 6, q0_, .int y1_), (8, 8, q0_, .int y2_), (7, 3, q3_, .int y3_), (5, 2, q1_, .int y4_), (7, 1, q3_, .int y5_)] := G3.start hP hD0 hWT hfx
  have hl := lv_entry ([.ref a0_, .int x1_]) (n := 2) (Nat.le_of_ble_eq_true rfl)
  rw [lg_entry_eq]
  generalize (lg_sl ([.ref a0_, .int x1_]) ++ List.replicate (2 - (lg_sl ([.ref a0_, .int x1_])).length) Slot.unset).toArray = ls at hl ⊢
  have hl : lv_has ls 2 [(0, .ref a0_), (1, .int x1_)] := hl
  refine W_q (fun Q hQ => ?_)
  refine lv_aload_n hx hb dX2_readAsked_0 rfl (lv_at hl 0 rfl) ?_
  refine g_getk (C := RX2) (T := TX2) (N := 16) hx hb hts (mc_ inX2) hown hK g rfl 1 (by decide) rfl (hts _ (List.mem_cons_of_mem _ t_417)) (fun _ h9 => h9) 1 rfl dX2_readAsked_1 ?_
  refine lv_iconst (v := 1) hx hb dX2_readAsked_4 (by decide) ?_
  have kb_1 : bd 1 1 (1 : Int32) := ⟨by decide, by decide⟩
  have go_ := g
  refine g_put (C := RX5) (T := TX5) (N := 9) hx hb hts (mc_ inX5) tyX5 tyX5_ok nmX5 hown hK g mq1_ kq1_ (by decide) rfl 7 (by decide) (hts _ (List.mem_cons_of_mem _ t_344)) (fun _ h9 => h9) rfl rfl (okV_i (bd_sub kb_1 (by decide))) rfl rfl (by decide) (Or.inr (Or.inl (by decide))) (fx' := [(2, 0, a0_, .ref q0_), (2, 1, a0_, .ref q1_), (2, 2, a0_, .ref q2_), (2, 3, a0_, .ref q3_), (0, 0, q2_, .ref q0_), (0, 1, q2_, .ref q1_), (5, 0, q1_, .ref q3_), (5, 1, q1_, .ref q7_), (7, 13, q3_, .int y0_), (8, 6, q0_, .int y1_), (8, 8, q0_, .int y2_), (7, 3, q3_, .int y3_), (5, 2, q1_, .int y4_), (7, 1, q3_, .int y5_)]) rfl dX2_readAsked_5 (fun f H locs hM_1 g => ?_)
  have hG_2 := eOK.frame hM_1 go_.2.2.2.1 mq2_ kq2_ (by decide) (by decide) hGeq2_
  have hG_3 := dOK.frame hM_1 go_.2.2.2.1 mq3_ kq3_ (by decide) (by decide) hGdq3_
  refine lv_aload_n hx hb dX2_readAsked_8 rfl (lv_at hl 0 rfl) ?_
  refine g_getk (C := RX2) (T := TX2) (N := 16) hx hb hts (mc_ inX2) hown hK g rfl 1 (by decide) rfl (hts _ (List.mem_cons_of_mem _ t_417)) (fun _ h9 => h9) 2 rfl dX2_readAsked_9 ?_
  refine lv_iload_n hx hb dX2_readAsked_12 rfl (lv_at hl 1 rfl) ?_
  have go_ := g
  refine g_put (C := RX5) (T := TX5) (N := 9) hx hb hts (mc_ inX5) tyX5 tyX5_ok nmX5 hown hK g mq1_ kq1_ (by decide) rfl 8 (by decide) (hts _ (List.mem_cons_of_mem _ t_347)) (fun _ h9 => h9) rfl rfl (okV_i (bd_sub bx1_ (by decide))) (nar_z (bd_sub bx1_ (by decide) : bd 0 1 _).1 (bd_sub bx1_ (by decide) : bd 0 1 _).2) (fit_z (bd_sub bx1_ (by decide) : bd 0 1 _)) (by decide) (Or.inr (Or.inl (by decide))) (fx' := [(5, 7, q1_, .int 1), (2, 0, a0_, .ref q0_), (2, 1, a0_, .ref q1_), (2, 2, a0_, .ref q2_), (2, 3, a0_, .ref q3_), (0, 0, q2_, .ref q0_), (0, 1, q2_, .ref q1_), (5, 0, q1_, .ref q3_), (5, 1, q1_, .ref q7_), (7, 13, q3_, .int y0_), (8, 6, q0_, .int y1_), (8, 8, q0_, .int y2_), (7, 3, q3_, .int y3_), (5, 2, q1_, .int y4_), (7, 1, q3_, .int y5_)]) rfl dX2_readAsked_13 (fun f H locs hM_4 g => ?_)
  have hG_5 := eOK.frame hM_4 go_.2.2.2.1 mq2_ kq2_ (by decide) (by decide) hG_2
  have hG_6 := dOK.frame hM_4 go_.2.2.2.1 mq3_ kq3_ (by decide) (by decide) hG_3
  refine lv_aload_n hx hb dX2_readAsked_16 rfl (lv_at hl 0 rfl) ?_
  refine g_getk (C := RX2) (T := TX2) (N := 16) hx hb hts (mc_ inX2) hown hK g rfl 2 (by decide) rfl (hts _ (List.mem_cons_of_mem _ t_418)) (fun _ h9 => h9) 4 rfl dX2_readAsked_17 ?_
  have go_ := g
  refine g_callv (va_runV (As := []) (rest := []) ⟨hx, hb, hml, hown, hts⟩ (r_X0_read_2 l dC dI L kd tys f H.size g.2.2.2.1 q2_ mq2_ kq2_ q0_ mq0_ kq0_ q1_ mq1_ kq1_ q3_ mq3_ kq3_ q7_ mq7_ kq7_ y1_ by1_ y2_ by2_ T_ hG_5 hG_6 (g.fcts [6, 7, 8, 9, 11, 12] rfl)) (cwV 0 hts (gV_ t_1182 t_1183 t_1184 t_190 t_1185) rfl rfl rfl (by decide +kernel) ⟨(Nat.le_of_ble_eq_true rfl), (Nat.le_of_ble_eq_true rfl)⟩) (pre3V g hK mq2_ kq2_ (by decide) (q := (RX0, TX0, 14)) rfl) rfl rfl hl.1 rfl (lv_room (Nat.le_of_ble_eq_true rfl)) dX2_readAsked_20 ⟨(Nat.le_of_ble_eq_true rfl), (Nat.le_of_ble_eq_true rfl)⟩) g hK (by decide) (by decide) (fx' := [(5, 8, q1_, .int x1_), (5, 7, q1_, .int 1), (2, 0, a0_, .ref q0_), (2, 1, a0_, .ref q1_), (2, 2, a0_, .ref q2_), (2, 3, a0_, .ref q3_), (0, 0, q2_, .ref q0_), (0, 1, q2_, .ref q1_), (5, 0, q1_, .ref q3_), (5, 1, q1_, .ref q7_), (7, 13, q3_, .int y0_), (8, 6, q0_, .int y1_), (8, 8, q0_, .int y2_), (7, 3, q3_, .int y3_), (5, 2, q1_, .int y4_), (7, 1, q3_, .int y5_)]) rfl (fun fr_7 H locs hp hMr_7 g => ?_)
  have hF_8 := hp
  have hG_9 := eOK.frame hMr_7 go_.2.2.2.1 mq2_ kq2_ (by decide) (by decide) hG_5
  have hG_10 := dOK.frame hMr_7 go_.2.2.2.1 mq3_ kq3_ (by decide) (by decide) hG_6
  have g := g.more hF_8
  refine lv_aload_n hx hb dX2_readAsked_23 rfl (lv_at hl 0 rfl) ?_
  refine g_getk (C := RX2) (T := TX2) (N := 16) hx hb hts (mc_ inX2) hown hK g rfl 1 (by decide) rfl (hts _ (List.mem_cons_of_mem _ t_417)) (fun _ h9 => h9) 9 rfl dX2_readAsked_24 ?_
  refine lv_iconst (v := 0) hx hb dX2_readAsked_27 (by decide) ?_
  have kb_0 : bd 0 0 (0 : Int32) := ⟨by decide, by decide⟩
  have go_ := g
  refine g_put (C := RX5) (T := TX5) (N := 9) hx hb hts (mc_ inX5) tyX5 tyX5_ok nmX5 hown hK g mq1_ kq1_ (by decide) rfl 7 (by decide) (hts _ (List.mem_cons_of_mem _ t_344)) (fun _ h9 => h9) rfl rfl (okV_i (bd_sub kb_0 (by decide))) rfl rfl (by decide) (Or.inr (Or.inl (by decide))) (fx' := [(0, 13, q2_, .int 0), (0, 12, q2_, .int 1), (0, 11, q2_, .int 0), (0, 10, q2_, .int 0), (0, 8, q2_, .int 0), (0, 2, q2_, .ref q3_), (5, 8, q1_, .int x1_), (2, 0, a0_, .ref q0_), (2, 1, a0_, .ref q1_), (2, 2, a0_, .ref q2_), (2, 3, a0_, .ref q3_), (0, 0, q2_, .ref q0_), (0, 1, q2_, .ref q1_), (5, 0, q1_, .ref q3_), (5, 1, q1_, .ref q7_), (7, 13, q3_, .int y0_), (8, 6, q0_, .int y1_), (8, 8, q0_, .int y2_), (7, 3, q3_, .int y3_), (5, 2, q1_, .int y4_), (7, 1, q3_, .int y5_)]) rfl dX2_readAsked_28 (fun f H locs hM_11 g => ?_)
  have hG_12 := eOK.frame hM_11 go_.2.2.2.1 mq2_ kq2_ (by decide) (by decide) hG_9
  have hG_13 := dOK.frame hM_11 go_.2.2.2.1 mq3_ kq3_ (by decide) (by decide) hG_10
  refine lv_aload_n hx hb dX2_readAsked_31 rfl (lv_at hl 0 rfl) ?_
  refine g_getk (C := RX2) (T := TX2) (N := 16) hx hb hts (mc_ inX2) hown hK g rfl 1 (by decide) rfl (hts _ (List.mem_cons_of_mem _ t_417)) (fun _ h9 => h9) 9 rfl dX2_readAsked_32 ?_
  refine lv_iconst (v := 0) hx hb dX2_readAsked_35 (by decide) ?_
  have go_ := g
  refine g_put (C := RX5) (T := TX5) (N := 9) hx hb hts (mc_ inX5) tyX5 tyX5_ok nmX5 hown hK g mq1_ kq1_ (by decide) rfl 8 (by decide) (hts _ (List.mem_cons_of_mem _ t_347)) (fun _ h9 => h9) rfl rfl (okV_i (bd_sub kb_0 (by decide))) rfl rfl (by decide) (Or.inr (Or.inl (by decide))) (fx' := [(5, 7, q1_, .int 0), (0, 13, q2_, .int 0), (0, 12, q2_, .int 1), (0, 11, q2_, .int 0), (0, 10, q2_, .int 0), (0, 8, q2_, .int 0), (0, 2, q2_, .ref q3_), (2, 0, a0_, .ref q0_), (2, 1, a0_, .ref q1_), (2, 2, a0_, .ref q2_), (2, 3, a0_, .ref q3_), (0, 0, q2_, .ref q0_), (0, 1, q2_, .ref q1_), (5, 0, q1_, .ref q3_), (5, 1, q1_, .ref q7_), (7, 13, q3_, .int y0_), (8, 6, q0_, .int y1_), (8, 8, q0_, .int y2_), (7, 3, q3_, .int y3_), (5, 2, q1_, .int y4_), (7, 1, q3_, .int y5_)]) rfl dX2_readAsked_36 (fun f H locs hM_14 g => ?_)
  have hG_15 := eOK.frame hM_14 go_.2.2.2.1 mq2_ kq2_ (by decide) (by decide) hG_12
  have hG_16 := dOK.frame hM_14 go_.2.2.2.1 mq3_ kq3_ (by decide) (by decide) hG_13
  refine lv_aload_n hx hb dX2_readAsked_39 rfl (lv_at hl 0 rfl) ?_
  refine g_getk (C := RX2) (T := TX2) (N := 16) hx hb hts (mc_ inX2) hown hK g rfl 3 (by decide) rfl (hts _ (List.mem_cons_of_mem _ t_419)) (fun _ h9 => h9) 11 rfl dX2_readAsked_40 ?_
  refine lv_bipush (v := 26) hx hb dX2_readAsked_43 (by decide) ?_
  refine lv_iconst (v := 0) hx hb dX2_readAsked_45 (by decide) ?_
  obtain ⟨a_17, ma_17, ka_17, g⟩ := g_factr g mq3_ kq3_ (by decide) 4 rfl
  obtain ⟨a_18, ma_18, ka_18, g⟩ := g_factr g mq3_ kq3_ (by decide) 5 rfl
  obtain ⟨x_19, bx_19, g⟩ := g_facti g mq3_ kq3_ (by decide) 6 rfl
  have go_ := g
  refine g_callv (va_runV (As := [.int 26, .int 0]) (rest := []) ⟨hx, hb, hml, hown, hts⟩ (r_X7_emitF l dC dI L kd tys f H.size g.2.2.2.1 q3_ mq3_ kq3_ a_17 ma_17 ka_17 a_18 ma_18 ka_18 x_19 bx_19 T_ hG_16 (26 : Int32) (0 : Int32) (g.fcts [2, 1, 0] rfl)) (cwV 2 hts (gV_ t_1301 t_1204 t_1205 t_191 t_1206) rfl rfl rfl (by decide +kernel) ⟨(Nat.le_of_ble_eq_true rfl), (Nat.le_of_ble_eq_true rfl)⟩) (pre3V g hK mq3_ kq3_ (by decide) (q := (RX7, TX7, 19)) rfl) rfl rfl hl.1 rfl (lv_room (Nat.le_of_ble_eq_true rfl)) dX2_readAsked_46 ⟨(Nat.le_of_ble_eq_true rfl), (Nat.le_of_ble_eq_true rfl)⟩) g hK (by decide) (by decide) (fx' := [(7, 5, q3_, .ref a_18), (7, 4, q3_, .ref a_17), (5, 8, q1_, .int 0), (5, 7, q1_, .int 0), (0, 13, q2_, .int 0), (0, 12, q2_, .int 1), (0, 11, q2_, .int 0), (0, 10, q2_, .int 0), (0, 8, q2_, .int 0), (0, 2, q2_, .ref q3_), (2, 0, a0_, .ref q0_), (2, 1, a0_, .ref q1_), (2, 2, a0_, .ref q2_), (2, 3, a0_, .ref q3_), (0, 0, q2_, .ref q0_), (0, 1, q2_, .ref q1_), (5, 0, q1_, .ref q3_), (5, 1, q1_, .ref q7_), (7, 13, q3_, .int y0_), (8, 6, q0_, .int y1_), (8, 8, q0_, .int y2_), (7, 3, q3_, .int y3_), (5, 2, q1_, .int y4_), (7, 1, q3_, .int y5_)]) rfl (fun fr_20 H locs hp hMr_20 g => ?_)
  obtain ⟨hG_21, x_22, h_23, hF_24⟩ := hp
  have hG_25 := eOK.frame hMr_20 go_.2.2.2.1 mq2_ kq2_ (by decide) (by decide) hG_15
  have g := g.more hF_24
  subst hQ
  exact W.vret hx hb hr (fun t ht hW => ⟨⟨_, rfl, ⟨hG_21, (g.fcts [3, 4, 5, 6, 7, 8, 9, 10] rfl)⟩, q3_of g hK ht hW⟩, g.2.2.1.F ht⟩) g.2.2.1.2.2 dX2_readAsked_49
set_option maxHeartbeats 4000000 in
set_option maxRecDepth 100000 in
theorem r_X2_readAsked_12 (l : Launch) (dC : Nat → ClassId) (dI : Nat → Nat → Nat) (L : List Nat) (kd : Nat → Nat) (tys : List (ClassId × FieldType)) (f0 : Nat → va_E) (sz : Nat) (hWT : WT L kd tys f0) (a0_ : Nat) (ma0_ : a0_ ∈ L) (ka0_ : kd a0_ = 2) (x1_ : Int32) (bx1_ : bd 1 1 x1_) (q0_ : Nat) (mq0_ : q0_ ∈ L) (kq0_ : kd q0_ = 8) (q1_ : Nat) (mq1_ : q1_ ∈ L) (kq1_ : kd q1_ = 5) (q2_ : Nat) (mq2_ : q2_ ∈ L) (kq2_ : kd q2_ = 0) (q3_ : Nat) (mq3_ : q3_ ∈ L) (kq3_ : kd q3_ = 7) (q7_ : Nat) (mq7_ : q7_ ∈ L) (kq7_ : kd q7_ = 9) (y0_ : Int32) (by0_ : bd 1 500 y0_) (y1_ : Int32) (by1_ : bd 1201 1201 y1_) (y2_ : Int32) (by2_ : bd 1 7 y2_) (y3_ : Int32) (by3_ : bd 1 96 y3_) (y4_ : Int32) (by4_ : bd 0 7 y4_) (y5_ : Int32) (by5_ : bd 0 7 y5_) (T_ : Nat) (hGeq2_ : eOK f0 q2_) (hGdq3_ : dOK L kd f0 q3_ T_) (hfx : Fs L kd f0 [(2, 0, a0_, .ref q0_), (2, 1, a0_, .ref q1_), (2, 2, a0_, .ref q2_), (2, 3, a0_, .ref q3_), (0, 0, q2_, .ref q0_), (0, 1, q2_, .ref q1_), (5, 0, q1_, .ref q3_), (5, 1, q1_, .ref q7_), (7, 13, q3_, .int y0_), (8, 6, q0_, .int y1_), (8, 8, q0_, .int y2_), (7, 3, q3_, .int y3_), (5, 2, q1_, .int y4_), (7, 1, q3_, .int y5_)]) : Met l yX2_readAsked (.code yX2_readAsked cX2_readAsked 2 none :: lw_g) ({ frames := 1, cells := 0, slots := 0, locals := 22 }) (va_Pc [.ref a0_, .int x1_] (P3 (dC, dI) L tys f0 sz)) (va_Qv (fun (f : Nat → va_E) => (dOK L kd f q3_ T_ ∧ Fs L kd f [(5, 8, q1_, .int 0), (5, 7, q1_, .int 0), (0, 13, q2_, .int 0), (0, 12, q2_, .int 1), (0, 11, q2_, .int 0), (0, 10, q2_, .int 0), (0, 8, q2_, .int 0), (0, 2, q2_, .ref q3_)])) (Q3 (dC, dI) L kd tys [(0, 2), (0, 8), (0, 10), (0, 11), (0, 12), (0, 13), (5, 7), (5, 8), (7, 6)] [138, 139] f0 sz) (pA L sz)) 0 0 (pA L sz) := by
  refine Met.ofW (cc := cX2_readAsked) (maxL := 2) (ret := none) (by decide) rfl ?_
  intro p e s m args below meth c s₁ B hml hv
  obtain ⟨rfl, hsz, hP, hK, hD0⟩ := hv
  have hx := B.exec
  have hb := B.bytes
  have hr := B.returns
  have hts := atoms_spec (ws := (.code yX2_readAsked cX2_readAsked 2 none :: lw_g)) B.pre
  have hown : s.vm.findClass RX2 = some m.cls := findClass_of_methodNamed B.named
  have hlocks := B.notSynchronized
  subst hsz
  have g : G3 (dC, dI) L kd tys s f0 [(0, 2), (0, 8), (0, 10), (0, 11), (0, 12), (0, 13), (5, 7), (5, 8), (7, 6)] [138, 139] f0 s.heap [] [(2, 0, a0_, .ref q0_), (2, 1, a0_, .ref q1_), (2, 2, a0_, .ref q2_), (2, 3, a0_, .ref q3_), (0, 0, q2_, .ref q0_), (0, 1, q2_, .ref q1_), (5, 0, q1_, .ref q3_), (5, 1, q1_, .ref q7_), (7, 13, q3_, .int y0_), (8, 6, q0_, .int y1_), (8, 8, q0_, .int y2_), (7, 3, q3_, .int y3_), (5, 2, q1_, .int y4_), (7, 1, q3_, .int y5_)] := G3.start hP hD0 hWT hfx
  have hl := lv_entry ([.ref a0_, .int x1_]) (n := 2) (Nat.le_of_ble_eq_true rfl)
  rw [lg_entry_eq]
  generalize (lg_sl ([.ref a0_, .int x1_]) ++ List.replicate (2 - (lg_sl ([.ref a0_, .int x1_])).length) Slot.unset).toArray = ls at hl ⊢
  have hl : lv_has ls 2 [(0, .ref a0_), (1, .int x1_)] := hl
  refine W_q (fun Q hQ => ?_)
  refine lv_aload_n hx hb dX2_readAsked_0 rfl (lv_at hl 0 rfl) ?_
  refine g_getk (C := RX2) (T := TX2) (N := 16) hx hb hts (mc_ inX2) hown hK g rfl 1 (by decide) rfl (hts _ (List.mem_cons_of_mem _ t_417)) (fun _ h9 => h9) 1 rfl dX2_readAsked_1 ?_
  refine lv_iconst (v := 1) hx hb dX2_readAsked_4 (by decide) ?_
  have kb_1 : bd 1 1 (1 : Int32) := ⟨by decide, by decide⟩
  have go_ := g
  refine g_put (C := RX5) (T := TX5) (N := 9) hx hb hts (mc_ inX5) tyX5 tyX5_ok nmX5 hown hK g mq1_ kq1_ (by decide) rfl 7 (by decide) (hts _ (List.mem_cons_of_mem _ t_344)) (fun _ h9 => h9) rfl rfl (okV_i (bd_sub kb_1 (by decide))) rfl rfl (by decide) (Or.inr (Or.inl (by decide))) (fx' := [(2, 0, a0_, .ref q0_), (2, 1, a0_, .ref q1_), (2, 2, a0_, .ref q2_), (2, 3, a0_, .ref q3_), (0, 0, q2_, .ref q0_), (0, 1, q2_, .ref q1_), (5, 0, q1_, .ref q3_), (5, 1, q1_, .ref q7_), (7, 13, q3_, .int y0_), (8, 6, q0_, .int y1_), (8, 8, q0_, .int y2_), (7, 3, q3_, .int y3_), (5, 2, q1_, .int y4_), (7, 1, q3_, .int y5_)]) rfl dX2_readAsked_5 (fun f H locs hM_1 g => ?_)
  have hG_2 := eOK.frame hM_1 go_.2.2.2.1 mq2_ kq2_ (by decide) (by decide) hGeq2_
  have hG_3 := dOK.frame hM_1 go_.2.2.2.1 mq3_ kq3_ (by decide) (by decide) hGdq3_
  refine lv_aload_n hx hb dX2_readAsked_8 rfl (lv_at hl 0 rfl) ?_
  refine g_getk (C := RX2) (T := TX2) (N := 16) hx hb hts (mc_ inX2) hown hK g rfl 1 (by decide) rfl (hts _ (List.mem_cons_of_mem _ t_417)) (fun _ h9 => h9) 2 rfl dX2_readAsked_9 ?_
  refine lv_iload_n hx hb dX2_readAsked_12 rfl (lv_at hl 1 rfl) ?_
  have go_ := g
  refine g_put (C := RX5) (T := TX5) (N := 9) hx hb hts (mc_ inX5) tyX5 tyX5_ok nmX5 hown hK g mq1_ kq1_ (by decide) rfl 8 (by decide) (hts _ (List.mem_cons_of_mem _ t_347)) (fun _ h9 => h9) rfl rfl (okV_i (bd_sub bx1_ (by decide))) (nar_z (bd_sub bx1_ (by decide) : bd 0 1 _).1 (bd_sub bx1_ (by decide) : bd 0 1 _).2) (fit_z (bd_sub bx1_ (by decide) : bd 0 1 _)) (by decide) (Or.inr (Or.inl (by decide))) (fx' := [(5, 7, q1_, .int 1), (2, 0, a0_, .ref q0_), (2, 1, a0_, .ref q1_), (2, 2, a0_, .ref q2_), (2, 3, a0_, .ref q3_), (0, 0, q2_, .ref q0_), (0, 1, q2_, .ref q1_), (5, 0, q1_, .ref q3_), (5, 1, q1_, .ref q7_), (7, 13, q3_, .int y0_), (8, 6, q0_, .int y1_), (8, 8, q0_, .int y2_), (7, 3, q3_, .int y3_), (5, 2, q1_, .int y4_), (7, 1, q3_, .int y5_)]) rfl dX2_readAsked_13 (fun f H locs hM_4 g => ?_)
  have hG_5 := eOK.frame hM_4 go_.2.2.2.1 mq2_ kq2_ (by decide) (by decide) hG_2
  have hG_6 := dOK.frame hM_4 go_.2.2.2.1 mq3_ kq3_ (by decide) (by decide) hG_3
  refine lv_aload_n hx hb dX2_readAsked_16 rfl (lv_at hl 0 rfl) ?_
  refine g_getk (C := RX2) (T := TX2) (N := 16) hx hb hts (mc_ inX2) hown hK g rfl 2 (by decide) rfl (hts _ (List.mem_cons_of_mem _ t_418)) (fun _ h9 => h9) 4 rfl dX2_readAsked_17 ?_
  have go_ := g
  refine g_callv (va_runV (As := []) (rest := []) ⟨hx, hb, hml, hown, hts⟩ (r_X0_read_2 l dC dI L kd tys f H.size g.2.2.2.1 q2_ mq2_ kq2_ q0_ mq0_ kq0_ q1_ mq1_ kq1_ q3_ mq3_ kq3_ q7_ mq7_ kq7_ y1_ by1_ y2_ by2_ T_ hG_5 hG_6 (g.fcts [6, 7, 8, 9, 11, 12] rfl)) (cwV 0 hts (gV_ t_1182 t_1183 t_1184 t_190 t_1185) rfl rfl rfl (by decide +kernel) ⟨(Nat.le_of_ble_eq_true rfl), (Nat.le_of_ble_eq_true rfl)⟩) (pre3V g hK mq2_ kq2_ (by decide) (q := (RX0, TX0, 14)) rfl) rfl rfl hl.1 rfl (lv_room (Nat.le_of_ble_eq_true rfl)) dX2_readAsked_20 ⟨(Nat.le_of_ble_eq_true rfl), (Nat.le_of_ble_eq_true rfl)⟩) g hK (by decide) (by decide) (fx' := [(5, 8, q1_, .int x1_), (5, 7, q1_, .int 1), (2, 0, a0_, .ref q0_), (2, 1, a0_, .ref q1_), (2, 2, a0_, .ref q2_), (2, 3, a0_, .ref q3_), (0, 0, q2_, .ref q0_), (0, 1, q2_, .ref q1_), (5, 0, q1_, .ref q3_), (5, 1, q1_, .ref q7_), (7, 13, q3_, .int y0_), (8, 6, q0_, .int y1_), (8, 8, q0_, .int y2_), (7, 3, q3_, .int y3_), (5, 2, q1_, .int y4_), (7, 1, q3_, .int y5_)]) rfl (fun fr_7 H locs hp hMr_7 g => ?_)
  have hF_8 := hp
  have hG_9 := eOK.frame hMr_7 go_.2.2.2.1 mq2_ kq2_ (by decide) (by decide) hG_5
  have hG_10 := dOK.frame hMr_7 go_.2.2.2.1 mq3_ kq3_ (by decide) (by decide) hG_6
  have g := g.more hF_8
  refine lv_aload_n hx hb dX2_readAsked_23 rfl (lv_at hl 0 rfl) ?_
  refine g_getk (C := RX2) (T := TX2) (N := 16) hx hb hts (mc_ inX2) hown hK g rfl 1 (by decide) rfl (hts _ (List.mem_cons_of_mem _ t_417)) (fun _ h9 => h9) 9 rfl dX2_readAsked_24 ?_
  refine lv_iconst (v := 0) hx hb dX2_readAsked_27 (by decide) ?_
  have kb_0 : bd 0 0 (0 : Int32) := ⟨by decide, by decide⟩
  have go_ := g
  refine g_put (C := RX5) (T := TX5) (N := 9) hx hb hts (mc_ inX5) tyX5 tyX5_ok nmX5 hown hK g mq1_ kq1_ (by decide) rfl 7 (by decide) (hts _ (List.mem_cons_of_mem _ t_344)) (fun _ h9 => h9) rfl rfl (okV_i (bd_sub kb_0 (by decide))) rfl rfl (by decide) (Or.inr (Or.inl (by decide))) (fx' := [(0, 13, q2_, .int 0), (0, 12, q2_, .int 1), (0, 11, q2_, .int 0), (0, 10, q2_, .int 0), (0, 8, q2_, .int 0), (0, 2, q2_, .ref q3_), (5, 8, q1_, .int x1_), (2, 0, a0_, .ref q0_), (2, 1, a0_, .ref q1_), (2, 2, a0_, .ref q2_), (2, 3, a0_, .ref q3_), (0, 0, q2_, .ref q0_), (0, 1, q2_, .ref q1_), (5, 0, q1_, .ref q3_), (5, 1, q1_, .ref q7_), (7, 13, q3_, .int y0_), (8, 6, q0_, .int y1_), (8, 8, q0_, .int y2_), (7, 3, q3_, .int y3_), (5, 2, q1_, .int y4_), (7, 1, q3_, .int y5_)]) rfl dX2_readAsked_28 (fun f H locs hM_11 g => ?_)
  have hG_12 := eOK.frame hM_11 go_.2.2.2.1 mq2_ kq2_ (by decide) (by decide) hG_9
  have hG_13 := dOK.frame hM_11 go_.2.2.2.1 mq3_ kq3_ (by decide) (by decide) hG_10
  refine lv_aload_n hx hb dX2_readAsked_31 rfl (lv_at hl 0 rfl) ?_
  refine g_getk (C := RX2) (T := TX2) (N := 16) hx hb hts (mc_ inX2) hown hK g rfl 1 (by decide) rfl (hts _ (List.mem_cons_of_mem _ t_417)) (fun _ h9 => h9) 9 rfl dX2_readAsked_32 ?_
  refine lv_iconst (v := 0) hx hb dX2_readAsked_35 (by decide) ?_
  have go_ := g
  refine g_put (C := RX5) (T := TX5) (N := 9) hx hb hts (mc_ inX5) tyX5 tyX5_ok nmX5 hown hK g mq1_ kq1_ (by decide) rfl 8 (by decide) (hts _ (List.mem_cons_of_mem _ t_347)) (fun _ h9 => h9) rfl rfl (okV_i (bd_sub kb_0 (by decide))) rfl rfl (by decide) (Or.inr (Or.inl (by decide))) (fx' := [(5, 7, q1_, .int 0), (0, 13, q2_, .int 0), (0, 12, q2_, .int 1), (0, 11, q2_, .int 0), (0, 10, q2_, .int 0), (0, 8, q2_, .int 0), (0, 2, q2_, .ref q3_), (2, 0, a0_, .ref q0_), (2, 1, a0_, .ref q1_), (2, 2, a0_, .ref q2_), (2, 3, a0_, .ref q3_), (0, 0, q2_, .ref q0_), (0, 1, q2_, .ref q1_), (5, 0, q1_, .ref q3_), (5, 1, q1_, .ref q7_), (7, 13, q3_, .int y0_), (8, 6, q0_, .int y1_), (8, 8, q0_, .int y2_), (7, 3, q3_, .int y3_), (5, 2, q1_, .int y4_), (7, 1, q3_, .int y5_)]) rfl dX2_readAsked_36 (fun f H locs hM_14 g => ?_)
  have hG_15 := eOK.frame hM_14 go_.2.2.2.1 mq2_ kq2_ (by decide) (by decide) hG_12
  have hG_16 := dOK.frame hM_14 go_.2.2.2.1 mq3_ kq3_ (by decide) (by decide) hG_13
  refine lv_aload_n hx hb dX2_readAsked_39 rfl (lv_at hl 0 rfl) ?_
  refine g_getk (C := RX2) (T := TX2) (N := 16) hx hb hts (mc_ inX2) hown hK g rfl 3 (by decide) rfl (hts _ (List.mem_cons_of_mem _ t_419)) (fun _ h9 => h9) 11 rfl dX2_readAsked_40 ?_
  refine lv_bipush (v := 26) hx hb dX2_readAsked_43 (by decide) ?_
  refine lv_iconst (v := 0) hx hb dX2_readAsked_45 (by decide) ?_
  obtain ⟨a_17, ma_17, ka_17, g⟩ := g_factr g mq3_ kq3_ (by decide) 4 rfl
  obtain ⟨a_18, ma_18, ka_18, g⟩ := g_factr g mq3_ kq3_ (by decide) 5 rfl
  obtain ⟨x_19, bx_19, g⟩ := g_facti g mq3_ kq3_ (by decide) 6 rfl
  have go_ := g
  refine g_callv (va_runV (As := [.int 26, .int 0]) (rest := []) ⟨hx, hb, hml, hown, hts⟩ (r_X7_emitF l dC dI L kd tys f H.size g.2.2.2.1 q3_ mq3_ kq3_ a_17 ma_17 ka_17 a_18 ma_18 ka_18 x_19 bx_19 T_ hG_16 (26 : Int32) (0 : Int32) (g.fcts [2, 1, 0] rfl)) (cwV 2 hts (gV_ t_1301 t_1204 t_1205 t_191 t_1206) rfl rfl rfl (by decide +kernel) ⟨(Nat.le_of_ble_eq_true rfl), (Nat.le_of_ble_eq_true rfl)⟩) (pre3V g hK mq3_ kq3_ (by decide) (q := (RX7, TX7, 19)) rfl) rfl rfl hl.1 rfl (lv_room (Nat.le_of_ble_eq_true rfl)) dX2_readAsked_46 ⟨(Nat.le_of_ble_eq_true rfl), (Nat.le_of_ble_eq_true rfl)⟩) g hK (by decide) (by decide) (fx' := [(7, 5, q3_, .ref a_18), (7, 4, q3_, .ref a_17), (5, 8, q1_, .int 0), (5, 7, q1_, .int 0), (0, 13, q2_, .int 0), (0, 12, q2_, .int 1), (0, 11, q2_, .int 0), (0, 10, q2_, .int 0), (0, 8, q2_, .int 0), (0, 2, q2_, .ref q3_), (2, 0, a0_, .ref q0_), (2, 1, a0_, .ref q1_), (2, 2, a0_, .ref q2_), (2, 3, a0_, .ref q3_), (0, 0, q2_, .ref q0_), (0, 1, q2_, .ref q1_), (5, 0, q1_, .ref q3_), (5, 1, q1_, .ref q7_), (7, 13, q3_, .int y0_), (8, 6, q0_, .int y1_), (8, 8, q0_, .int y2_), (7, 3, q3_, .int y3_), (5, 2, q1_, .int y4_), (7, 1, q3_, .int y5_)]) rfl (fun fr_20 H locs hp hMr_20 g => ?_)
  obtain ⟨hG_21, x_22, h_23, hF_24⟩ := hp
  have hG_25 := eOK.frame hMr_20 go_.2.2.2.1 mq2_ kq2_ (by decide) (by decide) hG_15
  have g := g.more hF_24
  subst hQ
  exact W.vret hx hb hr (fun t ht hW => ⟨⟨_, rfl, ⟨hG_21, (g.fcts [3, 4, 5, 6, 7, 8, 9, 10] rfl)⟩, q3_of g hK ht hW⟩, g.2.2.1.F ht⟩) g.2.2.1.2.2 dX2_readAsked_49
set_option maxHeartbeats 4000000 in
set_option maxRecDepth 100000 in
theorem r_X2_readThrownWord_2 (l : Launch) (dC : Nat → ClassId) (dI : Nat → Nat → Nat) (L : List Nat) (kd : Nat → Nat) (tys : List (ClassId × FieldType)) (f0 : Nat → va_E) (sz : Nat) (hWT : WT L kd tys f0) (a0_ : Nat) (ma0_ : a0_ ∈ L) (ka0_ : kd a0_ = 2) (q0_ : Nat) (mq0_ : q0_ ∈ L) (kq0_ : kd q0_ = 8) (q1_ : Nat) (mq1_ : q1_ ∈ L) (kq1_ : kd q1_ = 7) (y0_ : Int32) (by0_ : bd 1201 1201 y0_) (y1_ : Int32) (by1_ : bd 1 7 y1_) (hfx : Fs L kd f0 [(2, 0, a0_, .ref q0_), (2, 3, a0_, .ref q1_), (8, 6, q0_, .int y0_), (8, 8, q0_, .int y1_)]) : Met l yX2_readThrownWord (.code yX2_readThrownWord cX2_readThrownWord 2 (some .boolean) :: lw_g) ({ frames := 2, cells := 0, slots := 0, locals := 44 }) (va_Pc [.ref a0_] (P3 (dC, dI) L tys f0 sz)) (va_Qi (fun (r : Int32) (f : Nat → va_E) => (r = 0 ∧ ∃ z0_ : Int32, bd 1201 1201 z0_ ∧ ∃ z1_ : Int32, bd 1 500 z1_ ∧ Fs L kd f [(8, 6, q0_, .int z0_), (7, 13, q1_, .int z1_)])) (Q3 (dC, dI) L kd tys [(7, 13), (8, 6)] [140, 141, 142, 143, 144, 145] f0 sz) (pA L sz)) 0 0 (pA L sz) := by
  refine Met.ofW (cc := cX2_readThrownWord) (maxL := 2) (ret := (some .boolean)) (by decide) rfl ?_
  intro p e s m args below meth c s₁ B hml hv
  obtain ⟨rfl, hsz, hP, hK, hD0⟩ := hv
  have hx := B.exec
  have hb := B.bytes
  have hr := B.returns
  have hts := atoms_spec (ws := (.code yX2_readThrownWord cX2_readThrownWord 2 (some .boolean) :: lw_g)) B.pre
  have hown : s.vm.findClass RX2 = some m.cls := findClass_of_methodNamed B.named
  have hlocks := B.notSynchronized
  subst hsz
  have g : G3 (dC, dI) L kd tys s f0 [(7, 13), (8, 6)] [140, 141, 142, 143, 144, 145] f0 s.heap [] [(2, 0, a0_, .ref q0_), (2, 3, a0_, .ref q1_), (8, 6, q0_, .int y0_), (8, 8, q0_, .int y1_)] := G3.start hP hD0 hWT hfx
  have hl := lv_entry ([.ref a0_]) (n := 2) (Nat.le_of_ble_eq_true rfl)
  rw [lg_entry_eq]
  generalize (lg_sl ([.ref a0_]) ++ List.replicate (2 - (lg_sl ([.ref a0_])).length) Slot.unset).toArray = ls at hl ⊢
  have hl : lv_has ls 2 [(0, .ref a0_)] := hl
  refine W_q (fun Q hQ => ?_)
  refine lv_aload_n hx hb dX2_readThrownWord_0 rfl (lv_at hl 0 rfl) ?_
  refine g_getk (C := RX2) (T := TX2) (N := 16) hx hb hts (mc_ inX2) hown hK g rfl 3 (by decide) rfl (hts _ (List.mem_cons_of_mem _ t_419)) (fun _ h9 => h9) 1 rfl dX2_readThrownWord_1 ?_
  refine lv_iconst (v := 4) hx hb dX2_readThrownWord_4 (by decide) ?_
  refine lv_aload_n hx hb dX2_readThrownWord_5 rfl (lv_at hl 0 rfl) ?_
  refine g_getr (K := 5) (C := RX2) (T := TX2) (N := 16) hx hb hts (mc_ inX2) hown hK g ma0_ ka0_ (by decide) rfl 1 (by decide) rfl (hts _ (List.mem_cons_of_mem _ t_417)) (fun _ h9 => h9) rfl dX2_readThrownWord_6 (fun a_1 ma_1 ka_1 g => ?_)
  refine g_geti (C := RX5) (T := TX5) (N := 9) hx hb hts (mc_ inX5) hown hK g ma_1 ka_1 (by decide) rfl 2 (by decide) rfl (hts _ (List.mem_cons_of_mem _ t_333)) (fun _ h9 => h9) rfl dX2_readThrownWord_9 (fun x_2 bx_2 g => ?_)
  refine lv_aload_n hx hb dX2_readThrownWord_12 rfl (lv_at hl 0 rfl) ?_
  refine g_getk (C := RX2) (T := TX2) (N := 16) hx hb hts (mc_ inX2) hown hK g rfl 0 (by decide) rfl (hts _ (List.mem_cons_of_mem _ t_416)) (fun _ h9 => h9) 2 rfl dX2_readThrownWord_13 ?_
  refine g_calli (va_runV (As := []) (rest := [.int x_2, .int 4, .ref q1_]) ⟨hx, hb, hml, hown, hts⟩ (r_X8_place l dC dI L kd tys f0 s.heap.size g.2.2.2.1 q0_ mq0_ kq0_) (cwV 0 hts (gV_ t_1110 t_1111 t_1112 t_184 t_1113) rfl rfl rfl (by decide +kernel) ⟨(Nat.le_of_ble_eq_true rfl), (Nat.le_of_ble_eq_true rfl)⟩) (pre3V g hK mq0_ kq0_ (by decide) (q := (RX8, TX8, 10)) rfl) rfl rfl hl.1 rfl (lv_room (Nat.le_of_ble_eq_true rfl)) dX2_readThrownWord_16 ⟨(Nat.le_of_ble_eq_true rfl), (Nat.le_of_ble_eq_true rfl)⟩) g hK (by decide) (by decide) (fx' := [(5, 2, a_1, .int x_2), (2, 1, a0_, .ref a_1), (2, 0, a0_, .ref q0_), (2, 3, a0_, .ref q1_), (8, 6, q0_, .int y0_), (8, 8, q0_, .int y1_)]) rfl (fun r_3 fr_3 H locs hp hMr_3 g => ?_)
  refine g_calli (va_runV (As := [.int 4, .int x_2, .int r_3]) (rest := []) ⟨hx, hb, hml, hown, hts⟩ (r_X7_addMark l dC dI L kd tys fr_3 H.size g.2.2.2.1 q1_ mq1_ kq1_ 4 x_2 r_3) (cwV 3 hts (gV_ t_1173 t_1174 t_1175 t_191 t_1176) rfl rfl rfl (by decide +kernel) ⟨(Nat.le_of_ble_eq_true rfl), (Nat.le_of_ble_eq_true rfl)⟩) (pre3V g hK mq1_ kq1_ (by decide) (q := (RX7, TX7, 19)) rfl) rfl rfl hl.1 rfl (lv_room (Nat.le_of_ble_eq_true rfl)) dX2_readThrownWord_19 ⟨(Nat.le_of_ble_eq_true rfl), (Nat.le_of_ble_eq_true rfl)⟩) g hK (by decide) (by decide) (fx' := [(5, 2, a_1, .int x_2), (2, 1, a0_, .ref a_1), (2, 0, a0_, .ref q0_), (2, 3, a0_, .ref q1_), (8, 6, q0_, .int y0_), (8, 8, q0_, .int y1_)]) rfl (fun r_4 fr_4 H locs hp hMr_4 g => ?_)
  obtain ⟨h_5, x_6, h_7, hF_8⟩ := hp
  have g := g.more hF_8
  refine lv_istore_n (lv' := [(1, .int r_4), (0, .ref a0_)]) hx hb dX2_readThrownWord_22 rfl hl (by decide) rfl (fun ls hl => ?_)
  refine lv_aload_n hx hb dX2_readThrownWord_23 rfl (lv_at hl 1 rfl) ?_
  refine g_getk (C := RX2) (T := TX2) (N := 16) hx hb hts (mc_ inX2) hown hK g rfl 3 (by decide) rfl (hts _ (List.mem_cons_of_mem _ t_419)) (fun _ h9 => h9) 4 rfl dX2_readThrownWord_24 ?_
  refine g_getr (K := 145) (C := RX7) (T := TX7) (N := 19) hx hb hts (mc_ inX7) hown hK g mq1_ kq1_ (by decide) rfl 12 (by decide) rfl (hts _ (List.mem_cons_of_mem _ t_664)) (fun _ h9 => h9) rfl dX2_readThrownWord_27 (fun a_9 ma_9 ka_9 g => ?_)
  refine lv_iload_n hx hb dX2_readThrownWord_30 rfl (lv_at hl 0 rfl) ?_
  refine lv_aload_n hx hb dX2_readThrownWord_31 rfl (lv_at hl 1 rfl) ?_
  refine g_getk (C := RX2) (T := TX2) (N := 16) hx hb hts (mc_ inX2) hown hK g rfl 0 (by decide) rfl (hts _ (List.mem_cons_of_mem _ t_416)) (fun _ h9 => h9) 4 rfl dX2_readThrownWord_32 ?_
  refine g_calll (va_runV (As := []) (rest := [.int r_4, .ref a_9]) ⟨hx, hb, hml, hown, hts⟩ (r_X8_value l dC dI L kd tys fr_4 H.size g.2.2.2.1 q0_ mq0_ kq0_) (cwV 0 hts (gV_ t_1114 t_1115 t_1116 t_184 t_1117) rfl rfl rfl (by decide +kernel) ⟨(Nat.le_of_ble_eq_true rfl), (Nat.le_of_ble_eq_true rfl)⟩) (pre3V g hK mq0_ kq0_ (by decide) (q := (RX8, TX8, 10)) rfl) rfl rfl hl.1 rfl (lv_room (Nat.le_of_ble_eq_true rfl)) dX2_readThrownWord_35 ⟨(Nat.le_of_ble_eq_true rfl), (Nat.le_of_ble_eq_true rfl)⟩) g hK (by decide) (by decide) (fx' := [(7, 12, q1_, .ref a_9), (7, 13, q1_, .int x_6), (5, 2, a_1, .int x_2), (2, 1, a0_, .ref a_1), (2, 0, a0_, .ref q0_), (2, 3, a0_, .ref q1_), (8, 6, q0_, .int y0_), (8, 8, q0_, .int y1_)]) rfl (fun r_10 fr_10 H locs hp hMr_10 g => ?_)
  refine g_last hx hb hK g ma_9 ka_9 (by decide) rfl (in_bd h_5 (by decide)) (by decide) dX2_readThrownWord_38 (fun f H locs hM_11 g => ?_)
  refine lv_aload_n hx hb dX2_readThrownWord_39 rfl (lv_at hl 1 rfl) ?_
  refine g_getk (C := RX2) (T := TX2) (N := 16) hx hb hts (mc_ inX2) hown hK g rfl 0 (by decide) rfl (hts _ (List.mem_cons_of_mem _ t_416)) (fun _ h9 => h9) 4 rfl dX2_readThrownWord_40 ?_
  refine lv_iconst (v := 3) hx hb dX2_readThrownWord_43 (by decide) ?_
  refine g_callv (va_runV (As := [.int 3]) (rest := []) ⟨hx, hb, hml, hown, hts⟩ (r_X8_take_2 l dC dI L kd tys f H.size g.2.2.2.1 q0_ mq0_ kq0_ 3 y0_ by0_ y1_ by1_ (g.fcts [6, 7] rfl)) (cwV 1 hts (gV_ t_1098 t_1099 t_1100 t_184 t_1101) rfl rfl rfl (by decide +kernel) ⟨(Nat.le_of_ble_eq_true rfl), (Nat.le_of_ble_eq_true rfl)⟩) (pre3V g hK mq0_ kq0_ (by decide) (q := (RX8, TX8, 10)) rfl) rfl rfl hl.1 rfl (lv_room (Nat.le_of_ble_eq_true rfl)) dX2_readThrownWord_44 ⟨(Nat.le_of_ble_eq_true rfl), (Nat.le_of_ble_eq_true rfl)⟩) g hK (by decide) (by decide) (fx' := [(7, 12, q1_, .ref a_9), (7, 13, q1_, .int x_6), (5, 2, a_1, .int x_2), (2, 1, a0_, .ref a_1), (2, 0, a0_, .ref q0_), (2, 3, a0_, .ref q1_), (8, 8, q0_, .int y1_)]) rfl (fun fr_12 H locs hp hMr_12 g => ?_)
  obtain ⟨x_13, h_14, hF_15⟩ := hp
  have g := g.more hF_15
  refine lv_aload_n hx hb dX2_readThrownWord_47 rfl (lv_at hl 1 rfl) ?_
  refine g_getk (C := RX2) (T := TX2) (N := 16) hx hb hts (mc_ inX2) hown hK g rfl 0 (by decide) rfl (hts _ (List.mem_cons_of_mem _ t_416)) (fun _ h9 => h9) 5 rfl dX2_readThrownWord_48 ?_
  refine g_calli (va_runV (As := []) (rest := []) ⟨hx, hb, hml, hown, hts⟩ (r_X8_kind_2 l dC dI L kd tys fr_12 H.size g.2.2.2.1 q0_ mq0_ kq0_ x_13 h_14 (g.fcts [0] rfl)) (cwV 0 hts (gV_ t_1118 t_1119 t_1120 t_184 t_1121) rfl rfl rfl (by decide +kernel) ⟨(Nat.le_of_ble_eq_true rfl), (Nat.le_of_ble_eq_true rfl)⟩) (pre3V g hK mq0_ kq0_ (by decide) (q := (RX8, TX8, 10)) rfl) rfl rfl hl.1 rfl (lv_room (Nat.le_of_ble_eq_true rfl)) dX2_readThrownWord_51 ⟨(Nat.le_of_ble_eq_true rfl), (Nat.le_of_ble_eq_true rfl)⟩) g hK (by decide) (by decide) (fx' := [(8, 6, q0_, .int x_13), (7, 12, q1_, .ref a_9), (7, 13, q1_, .int x_6), (5, 2, a_1, .int x_2), (2, 1, a0_, .ref a_1), (2, 0, a0_, .ref q0_), (2, 3, a0_, .ref q1_), (8, 8, q0_, .int y1_)]) rfl (fun r_16 fr_16 H locs hp hMr_16 g => ?_)
  obtain ⟨h_17, -⟩ := hp
  obtain rfl : r_16 = 0 := h_17
  refine lv_bipush (v := 19) hx hb dX2_readThrownWord_54 (by decide) ?_
  refine lv_icmp_eq (tgt := 71) hx hb dX2_readThrownWord_56 (by decide) (fun c_ => absurd c_ (by decide)) (fun c_ => ?_)
  refine lv_aload_n hx hb dX2_readThrownWord_59 rfl (lv_at hl 1 rfl) ?_
  refine g_getk (C := RX2) (T := TX2) (N := 16) hx hb hts (mc_ inX2) hown hK g rfl 3 (by decide) rfl (hts _ (List.mem_cons_of_mem _ t_419)) (fun _ h9 => h9) 6 rfl dX2_readThrownWord_60 ?_
  refine g_getr (K := 141) (C := RX7) (T := TX7) (N := 19) hx hb hts (mc_ inX7) hown hK g mq1_ kq1_ (by decide) rfl 8 (by decide) rfl (hts _ (List.mem_cons_of_mem _ t_653)) (fun _ h9 => h9) rfl dX2_readThrownWord_63 (fun a_18 ma_18 ka_18 g => ?_)
  refine lv_iload_n hx hb dX2_readThrownWord_66 rfl (lv_at hl 0 rfl) ?_
  refine lv_iconst (v := (-1)) hx hb dX2_readThrownWord_67 (by decide) ?_
  have kb_m1 : bd (-1) (-1) ((-1) : Int32) := ⟨by decide, by decide⟩
  refine g_iast hx hb hK g ma_18 ka_18 (by decide) rfl (in_bd h_5 (by decide)) (bd_sub kb_m1 (by decide)) (by decide) dX2_readThrownWord_68 (fun f H locs hM_19 g => ?_)
  refine lv_iconst (v := 0) hx hb dX2_readThrownWord_69 (by decide) ?_
  subst hQ
  have kb_0 : bd 0 0 (0 : Int32) := ⟨by decide, by decide⟩
  exact W.zret (v := 0) hx hb hr (nar_z (bd_sub kb_0 (by decide) : bd 0 1 _).1 (bd_sub kb_0 (by decide) : bd 0 1 _).2) (fun t ht hW => ⟨⟨_, _, rfl, ⟨rfl, x_13, h_14, x_6, h_7, (g.fcts [1, 3] rfl)⟩, q3_of g hK ht hW⟩, g.2.2.1.F ht⟩) g.2.2.1.2.2 dX2_readThrownWord_70
