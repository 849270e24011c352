set_option maxHeartbeats 4000000 in
set_option maxRecDepth 100000 in
theorem r_X3_addMakeQ (l : Launch) (dC : Nat → ClassId) (dI : Nat → Nat → Nat) (L : List Nat) (kd : Nat → Nat) (tys : List (ClassId × FieldType)) (f0 : Nat → va_E) (sz : Nat) (hWT : WT L kd tys f0) (a0_ : Nat) (ma0_ : a0_ ∈ L) (ka0_ : kd a0_ = 3) (p_ : Nat) (mp_ : p_ ∈ L) (kp_ : kd p_ = 124) (m_ : Nat) (mm_ : m_ ∈ L) (km_ : kd m_ = 123) (A_ : Nat → Nat) (Q_ : RQ) (n_ : Int32) (bn_ : bd 0 10 n_) (k_ : Int32) (bk_ : bd 0 3 k_) (hJ_ : arP f0 p_ A_) (hQ_ : isQ L kd f0 m_ A_ Q_) (hw : wQ Q_ n_ k_) (x1_ : Int32) (bx1_ : bd 0 7 x1_) (hfx : Fs L kd f0 [(3, 0, a0_, .int n_), (3, 4, a0_, .int k_), (3, 2, a0_, .ref m_), (3, 3, a0_, .ref p_)]) : Met l yX3_addMake (.code yX3_addMake cX3_addMake 2 none :: lw_g) ({ frames := 1, cells := 0, slots := 0, locals := 26 }) (va_Pc [.ref a0_, .int x1_] (P3 (dC, dI) L tys f0 sz)) (va_Qv (fun (f : Nat → va_E) => ((rowT L kd f0 f a0_ m_ A_ (fun Q1 n1 k1 => wQ Q1 n1 k1 ∧ (n_.toInt < 10 → k_.toInt < 3 → n1.toInt = n_.toInt + 1))) ∧ True)) (Q3 (dC, dI) L kd tys [(3, 0), (3, 4)] [103, 122, 123, 125] f0 sz) (pA L sz)) 0 0 (pA L sz) := by
  refine Met.ofW (cc := cX3_addMake) (maxL := 2) (ret := none) (by decide) rfl ?_
  intro p e s m args below meth c s₁ B hml hv
  obtain ⟨rfl, hsz, hP, hK, hD0⟩ := hv
  have hx := B.exec
  have hb := B.bytes
  have hr := B.returns
  have hts := atoms_spec (ws := (.code yX3_addMake cX3_addMake 2 none :: lw_g)) B.pre
  have hown : s.vm.findClass RX3 = some m.cls := findClass_of_methodNamed B.named
  have hlocks := B.notSynchronized
  subst hsz
  have g : G3 (dC, dI) L kd tys s f0 [(3, 0), (3, 4)] [103, 122, 123, 125] f0 s.heap [] [(3, 0, a0_, .int n_), (3, 4, a0_, .int k_), (3, 2, a0_, .ref m_), (3, 3, a0_, .ref p_)] := G3.start hP hD0 hWT hfx
  have hl := lv_entry ([.ref a0_, .int x1_]) (n := 2) (Nat.le_of_ble_eq_true rfl)
  rw [lg_entry_eq]
  generalize (lg_sl ([.ref a0_, .int x1_]) ++ List.replicate (2 - (lg_sl ([.ref a0_, .int x1_])).length) Slot.unset).toArray = ls at hl ⊢
  have hl : lv_has ls 2 [(0, .ref a0_), (1, .int x1_)] := hl
  refine W_q (fun Q hQ => ?_)
  have hU_0 : QR L kd f0 f0 a0_ m_ A_ := QR.refl
  refine lv_aload_n hx hb dX3_addMake_0 rfl (lv_at hl 0 rfl) ?_
  refine g_getk (C := RX3) (T := TX3) (N := 6) hx hb hts (mc_ inX3) hown hK g rfl 0 (by decide) rfl (hts _ (List.mem_cons_of_mem _ t_801)) (fun _ h9 => h9) 0 rfl dX3_addMake_1 ?_
  refine lv_bipush (v := 10) hx hb dX3_addMake_4 (by decide) ?_
  have kb_10 : bd 10 10 (10 : Int32) := ⟨by decide, by decide⟩
  refine lv_icmp_ge (tgt := 63) hx hb dX3_addMake_6 (by decide) (fun c_1 => ?_) (fun c_1 => ?_)
  · have fc_1 := le_f c_1
    have b_2 : bd 10 10 n_ := leR fc_1 kb_10 bn_ (by decide)
    subst hQ
    exact W.vret hx hb hr (fun t ht hW => ⟨⟨_, rfl, ⟨⟨Q_, n_, k_, hQ_, hU_0, (fx_at g (i := 0) rfl).2.2.2, (fx_at g (i := 1) rfl).2.2.2, (bd_sub b_2 (by decide)), bk_, ⟨hw, (fun h9 h8 => (by have h9_0 := bk_; unfold bd at h9_0; have h9_1 := b_2; unfold bd at h9_1; have h9_2 := bx1_; unfold bd at h9_2; have h8_0 := kb_10; unfold bd at h8_0; omega))⟩⟩, trivial⟩, q3_of g hK ht hW⟩, g.2.2.1.F ht⟩) g.2.2.1.2.2 dX3_addMake_63
  · have fc_1 := nle_f c_1
    have b_3 : bd 0 9 n_ := ltL fc_1 bn_ kb_10 (by decide)
    refine lv_aload_n hx hb dX3_addMake_9 rfl (lv_at hl 0 rfl) ?_
    refine g_getk (C := RX3) (T := TX3) (N := 6) hx hb hts (mc_ inX3) hown hK g rfl 4 (by decide) rfl (hts _ (List.mem_cons_of_mem _ t_813)) (fun _ h9 => h9) 1 rfl dX3_addMake_10 ?_
    refine lv_iconst (v := 3) hx hb dX3_addMake_13 (by decide) ?_
    have kb_3 : bd 3 3 (3 : Int32) := ⟨by decide, by decide⟩
    refine lv_icmp_ge (tgt := 63) hx hb dX3_addMake_14 (by decide) (fun c_4 => ?_) (fun c_4 => ?_)
    · have fc_4 := le_f c_4
      have b_5 : bd 3 3 k_ := leR fc_4 kb_3 bk_ (by decide)
      subst hQ
      exact W.vret hx hb hr (fun t ht hW => ⟨⟨_, rfl, ⟨⟨Q_, n_, k_, hQ_, hU_0, (fx_at g (i := 0) rfl).2.2.2, (fx_at g (i := 1) rfl).2.2.2, (bd_sub b_3 (by decide)), (bd_sub b_5 (by decide)), ⟨hw, (fun h9 h8 => (by have h9_0 := b_5; unfold bd at h9_0; have h9_1 := b_3; unfold bd at h9_1; have h9_2 := bx1_; unfold bd at h9_2; have h8_0 := kb_10; unfold bd at h8_0; have h8_1 := kb_3; unfold bd at h8_1; omega))⟩⟩, trivial⟩, q3_of g hK ht hW⟩, g.2.2.1.F ht⟩) g.2.2.1.2.2 dX3_addMake_63
    · have fc_4 := nle_f c_4
      have b_6 : bd 0 2 k_ := ltL fc_4 bk_ kb_3 (by decide)
      refine lv_aload_n hx hb dX3_addMake_17 rfl (lv_at hl 0 rfl) ?_
      refine g_getr (K := 125) (C := RX3) (T := TX3) (N := 6) hx hb hts (mc_ inX3) hown hK g ma0_ ka0_ (by decide) rfl 5 (by decide) rfl (hts _ (List.mem_cons_of_mem _ t_815)) (fun _ h9 => h9) rfl dX3_addMake_18 (fun a_7 ma_7 ka_7 g => ?_)
      refine lv_aload_n hx hb dX3_addMake_21 rfl (lv_at hl 0 rfl) ?_
      refine g_getk (C := RX3) (T := TX3) (N := 6) hx hb hts (mc_ inX3) hown hK g rfl 4 (by decide) rfl (hts _ (List.mem_cons_of_mem _ t_813)) (fun _ h9 => h9) 2 rfl dX3_addMake_22 ?_
      refine lv_iload_n hx hb dX3_addMake_25 rfl (lv_at hl 1 rfl) ?_
      have go_ := g
      refine g_iast hx hb hK g ma_7 ka_7 (by decide) rfl (in_bd b_6 (by decide)) bx1_ (by decide) dX3_addMake_26 (fun f H locs hM_8 g => ?_)
      have hG_9 := isQ.frame hM_8 go_.2.2.2.1 ma0_ ka0_ (by decide) (by decide) hQ_
      have hG_10 := arP.frame hM_8 go_.2.2.2.1 mp_ kp_ (by decide) (by decide) hJ_
      have hG_11 := QR.frame hM_8 go_.2.2.2.1 ma0_ ka0_ (by decide) (by decide) hU_0
      refine lv_aload_n hx hb dX3_addMake_27 rfl (lv_at hl 0 rfl) ?_
      refine lv_aload_n hx hb dX3_addMake_28 rfl (lv_at hl 0 rfl) ?_
      refine g_getk (C := RX3) (T := TX3) (N := 6) hx hb hts (mc_ inX3) hown hK g rfl 0 (by decide) rfl (hts _ (List.mem_cons_of_mem _ t_801)) (fun _ h9 => h9) 1 rfl dX3_addMake_29 ?_
      refine lv_aload_n hx hb dX3_addMake_32 rfl (lv_at hl 0 rfl) ?_
      refine g_getk (C := RX3) (T := TX3) (N := 6) hx hb hts (mc_ inX3) hown hK g rfl 4 (by decide) rfl (hts _ (List.mem_cons_of_mem _ t_813)) (fun _ h9 => h9) 2 rfl dX3_addMake_33 ?_
      refine lv_iconst (v := (-1)) hx hb dX3_addMake_36 (by decide) ?_
      refine lv_iload_n hx hb dX3_addMake_37 rfl (lv_at hl 1 rfl) ?_
      refine lv_iconst (v := 0) hx hb dX3_addMake_38 (by decide) ?_
      refine lv_iconst (v := 0) hx hb dX3_addMake_39 (by decide) ?_
      have kb_m1 : bd (-1) (-1) ((-1) : Int32) := ⟨by decide, by decide⟩
      have go_ := g
      refine g_callv (va_runV (As := [.int n_, .int k_, .int (-1), .int x1_, .int 0, .int 0]) (rest := []) ⟨hx, hb, hml, hown, hts⟩ (r_X3_setToQ l dC dI L kd tys f H.size g.2.2.2.1 a0_ ma0_ ka0_ p_ mp_ kp_ m_ mm_ km_ A_ Q_ n_ (bd_sub b_3 (by decide)) k_ (bd_sub b_6 (by decide)) hG_10 hG_9 n_ b_3 k_ b_6 ((-1) : Int32) (bd_sub kb_m1 (by decide)) x1_ (0 : Int32) (0 : Int32) (g.fcts [1, 2, 3, 4] rfl)) (cwV 6 hts (gV_ t_1485 t_1487 t_52 t_196 t_1488) rfl rfl rfl (by decide +kernel) ⟨(Nat.le_of_ble_eq_true rfl), (Nat.le_of_ble_eq_true rfl)⟩) (pre3V g hK ma0_ ka0_ (by decide) (q := (RX3, TX3, 6)) rfl) rfl rfl hl.1 rfl (lv_room (Nat.le_of_ble_eq_true rfl)) dX3_addMake_40 ⟨(Nat.le_of_ble_eq_true rfl), (Nat.le_of_ble_eq_true rfl)⟩) g hK (by decide) (by decide) (fx' := [(3, 5, a0_, .ref a_7), (3, 0, a0_, .int n_), (3, 4, a0_, .int k_), (3, 2, a0_, .ref m_), (3, 3, a0_, .ref p_)]) rfl (fun fr_12 H locs hp hMr_12 g => ?_)
      obtain ⟨hx_13, -⟩ := hp
      have hG_14 := arP.frame hMr_12 go_.2.2.2.1 mp_ kp_ (by decide) (by decide) hG_10
      obtain ⟨Q_15, n_16, k_17, hQ_18, hU_19, h0_20, h4_21, b0_22, b4_23, hP_24⟩ := hx_13
      have hU_25 := QR.tr hG_11 hU_19
      obtain rfl : n_ = n_16 := by have h9 := (fx_at g (i := 1) rfl).2.2.2.symm.trans h0_20; cases h9; rfl
      obtain rfl : k_ = k_17 := by have h9 := (fx_at g (i := 2) rfl).2.2.2.symm.trans h4_21; cases h9; rfl
      obtain ⟨rfl, -, -⟩ := hP_24
      refine lv_aload_n hx hb dX3_addMake_43 rfl (lv_at hl 0 rfl) ?_
      refine lv_dup hx hb dX3_addMake_44 rfl ?_
      refine g_getk (C := RX3) (T := TX3) (N := 6) hx hb hts (mc_ inX3) hown hK g rfl 4 (by decide) rfl (hts _ (List.mem_cons_of_mem _ t_813)) (fun _ h9 => h9) 2 rfl dX3_addMake_45 ?_
      refine lv_iconst (v := 1) hx hb dX3_addMake_48 (by decide) ?_
      have kb_1 : bd 1 1 (1 : Int32) := ⟨by decide, by decide⟩
      refine lv_iadd hx hb dX3_addMake_49 ?_
      refine lv_topi (fun y_26 ey_26 => ?_)
      have ty_26 := add_bd ey_26 b_6 kb_1 (by decide)
      have b_27 : bd 1 3 y_26 := add_rg ty_26 b_6 kb_1 (by decide)
      have go_ := g
      refine g_putX (C := RX3) (T := TX3) (N := 6) hx hb hts (mc_ inX3) tyX3 tyX3_ok nmX3 hown hK g ma0_ ka0_ (by decide) rfl 4 (by decide) (hts _ (List.mem_cons_of_mem _ t_813)) (fun _ h9 => h9) rfl rfl (okV_i (bd_sub b_27 (by decide))) rfl rfl (by decide) (Or.inr (Or.inl (by decide))) (fx' := [(3, 5, a0_, .ref a_7), (3, 0, a0_, .int n_), (3, 2, a0_, .ref m_), (3, 3, a0_, .ref p_)]) rfl dX3_addMake_50 (fun f H locs hM_28 u_31 g => ?_)
      have hG_29 := arP.frame hM_28 go_.2.2.2.1 mp_ kp_ (by decide) (by decide) hG_14
      have hG_30 := isQ.frame hM_28 go_.2.2.2.1 ma0_ ka0_ (by decide) (by decide) hQ_18
      have hU_32 := QR.fld hU_25 u_31 ka0_
      refine lv_aload_n hx hb dX3_addMake_53 rfl (lv_at hl 0 rfl) ?_
      refine lv_dup hx hb dX3_addMake_54 rfl ?_
      refine g_getk (C := RX3) (T := TX3) (N := 6) hx hb hts (mc_ inX3) hown hK g rfl 0 (by decide) rfl (hts _ (List.mem_cons_of_mem _ t_801)) (fun _ h9 => h9) 2 rfl dX3_addMake_55 ?_
      refine lv_iconst (v := 1) hx hb dX3_addMake_58 (by decide) ?_
      refine lv_iadd hx hb dX3_addMake_59 ?_
      refine lv_topi (fun y_33 ey_33 => ?_)
      have ty_33 := add_bd ey_33 b_3 kb_1 (by decide)
      have b_34 : bd 1 10 y_33 := add_rg ty_33 b_3 kb_1 (by decide)
      have go_ := g
      refine g_putX (C := RX3) (T := TX3) (N := 6) hx hb hts (mc_ inX3) tyX3 tyX3_ok nmX3 hown hK g ma0_ ka0_ (by decide) rfl 0 (by decide) (hts _ (List.mem_cons_of_mem _ t_801)) (fun _ h9 => h9) rfl rfl (okV_i (bd_sub b_34 (by decide))) rfl rfl (by decide) (Or.inr (Or.inl (by decide))) (fx' := [(3, 4, a0_, .int y_26), (3, 5, a0_, .ref a_7), (3, 2, a0_, .ref m_), (3, 3, a0_, .ref p_)]) rfl dX3_addMake_60 (fun f H locs hM_35 u_38 g => ?_)
      have hG_36 := arP.frame hM_35 go_.2.2.2.1 mp_ kp_ (by decide) (by decide) hG_29
      have hG_37 := isQ.frame hM_35 go_.2.2.2.1 ma0_ ka0_ (by decide) (by decide) hG_30
      have hU_39 := QR.fld hU_32 u_38 ka0_
      subst hQ
      exact W.vret hx hb hr (fun t ht hW => ⟨⟨_, rfl, ⟨⟨(RQ.ua (RQ.um Q_ n_.toNatClampNeg ((-1) : Int32)) n_.toNatClampNeg x1_), y_33, y_26, hG_37, hU_39, (fx_at g (i := 0) rfl).2.2.2, (fx_at g (i := 1) rfl).2.2.2, (bd_sub b_34 (by decide)), (bd_sub b_27 (by decide)), ⟨wQ.make hw bn_.1 (by decide) bx1_ (by have h9_0 := b_6; unfold bd at h9_0; have h9_1 := b_3; unfold bd at h9_1; have h9_2 := bx1_; unfold bd at h9_2; have h9_3 := b_27; unfold bd at h9_3; have h9_4 := b_34; unfold bd at h9_4; have h8_0 := kb_1; unfold bd at h8_0; have h8_1 := kb_10; unfold bd at h8_1; have h8_2 := kb_3; unfold bd at h8_2; have h8_3 := kb_m1; unfold bd at h8_3; omega) (by have h9_0 := b_6; unfold bd at h9_0; have h9_1 := b_3; unfold bd at h9_1; have h9_2 := bx1_; unfold bd at h9_2; have h9_3 := b_27; unfold bd at h9_3; have h9_4 := b_34; unfold bd at h9_4; have h8_0 := kb_1; unfold bd at h8_0; have h8_1 := kb_10; unfold bd at h8_1; have h8_2 := kb_3; unfold bd at h8_2; have h8_3 := kb_m1; unfold bd at h8_3; omega), (fun _ _ => (by have h9_0 := b_6; unfold bd at h9_0; have h9_1 := b_3; unfold bd at h9_1; have h9_2 := bx1_; unfold bd at h9_2; have h9_3 := b_27; unfold bd at h9_3; have h9_4 := b_34; unfold bd at h9_4; have h8_0 := kb_1; unfold bd at h8_0; have h8_1 := kb_10; unfold bd at h8_1; have h8_2 := kb_3; unfold bd at h8_2; have h8_3 := kb_m1; unfold bd at h8_3; omega))⟩⟩, trivial⟩, q3_of g hK ht hW⟩, g.2.2.1.F ht⟩) g.2.2.1.2.2 dX3_addMake_63
set_option maxHeartbeats 4000000 in
set_option maxRecDepth 100000 in
theorem r_X10_appendMake (l : Launch) (dC : Nat → ClassId) (dI : Nat → Nat → Nat) (L : List Nat) (kd : Nat → Nat) (tys : List (ClassId × FieldType)) (f0 : Nat → va_E) (sz : Nat) (hWT : WT L kd tys f0) (a0_ : Nat) (ma0_ : a0_ ∈ L) (ka0_ : kd a0_ = 10) (x1_ : Int32) (bx1_ : bd 0 7 x1_) (hGPa0_ : RP L kd f0 a0_) : Met l yX10_appendMake (.code yX10_appendMake cX10_appendMake 2 (some .int) :: lw_g) ({ frames := 2, cells := 0, slots := 0, locals := 47 }) (va_Pc [.ref a0_, .int x1_] (P3 (dC, dI) L tys f0 sz)) (va_Qi (fun (r : Int32) (f : Nat → va_E) => (RP L kd f a0_ ∧ bd (-1) 2 r ∧ Fs L kd f [(10, 8, a0_, .int 0)])) (Q3 (dC, dI) L kd tys [(3, 0), (3, 4), (10, 8)] [103, 122, 123, 125, 130, 131] f0 sz) (pA L sz)) 0 0 (pA L sz) := by
  refine Met.ofW (cc := cX10_appendMake) (maxL := 2) (ret := (some .int)) (by decide) rfl ?_
  intro p e s m args below meth c s₁ B hml hv
  obtain ⟨rfl, hsz, hP, hK, hD0⟩ := hv
  have hx := B.exec
  have hb := B.bytes
  have hr := B.returns
  have hts := atoms_spec (ws := (.code yX10_appendMake cX10_appendMake 2 (some .int) :: lw_g)) B.pre
  have hown : s.vm.findClass RX10 = some m.cls := findClass_of_methodNamed B.named
  have hlocks := B.notSynchronized
  subst hsz
  have g : G3 (dC, dI) L kd tys s f0 [(3, 0), (3, 4), (10, 8)] [103, 122, 123, 125, 130, 131] f0 s.heap [] [] := G3.start hP hD0 hWT Fs.nil
  have hl := lv_entry ([.ref a0_, .int x1_]) (n := 2) (Nat.le_of_ble_eq_true rfl)
  rw [lg_entry_eq]
  generalize (lg_sl ([.ref a0_, .int x1_]) ++ List.replicate (2 - (lg_sl ([.ref a0_, .int x1_])).length) Slot.unset).toArray = ls at hl ⊢
  have hl : lv_has ls 2 [(0, .ref a0_), (1, .int x1_)] := hl
  refine W_q (fun Q hQ => ?_)
  refine lv_aload_n hx hb dX10_appendMake_0 rfl (lv_at hl 0 rfl) ?_
  refine g_getr (K := 4) (C := RX10) (T := TX10) (N := 10) hx hb hts (mc_ inX10) hown hK g ma0_ ka0_ (by decide) rfl 4 (by decide) rfl (hts _ (List.mem_cons_of_mem _ t_917)) (fun _ h9 => h9) rfl dX10_appendMake_1 (fun a_1 ma_1 ka_1 g => ?_)
  refine lv_aload_n hx hb dX10_appendMake_4 rfl (lv_at hl 0 rfl) ?_
  refine g_getr (K := 3) (C := RX10) (T := TX10) (N := 10) hx hb hts (mc_ inX10) hown hK g ma0_ ka0_ (by decide) rfl 2 (by decide) rfl (hts _ (List.mem_cons_of_mem _ t_914)) (fun _ h9 => h9) rfl dX10_appendMake_5 (fun a_2 ma_2 ka_2 g => ?_)
  refine g_geti (C := RX3) (T := TX3) (N := 6) hx hb hts (mc_ inX3) hown hK g ma_2 ka_2 (by decide) rfl 0 (by decide) rfl (hts _ (List.mem_cons_of_mem _ t_802)) (fun _ h9 => h9) rfl dX10_appendMake_8 (fun x_3 bx_3 g => ?_)
  have go_ := g
  refine g_callv (va_runV (As := [.int x_3]) (rest := []) ⟨hx, hb, hml, hown, hts⟩ (r_X4_forgetCall l dC dI L kd tys f0 s.heap.size g.2.2.2.1 a_1 ma_1 ka_1 x_3) (cwV 1 hts (gV_ t_1480 t_1431 t_1432 t_197 t_1433) rfl rfl rfl (by decide +kernel) ⟨(Nat.le_of_ble_eq_true rfl), (Nat.le_of_ble_eq_true rfl)⟩) (pre3V g hK ma_1 ka_1 (by decide) (q := (RX4, TX4, 17)) rfl) rfl rfl hl.1 rfl (lv_room (Nat.le_of_ble_eq_true rfl)) dX10_appendMake_11 ⟨(Nat.le_of_ble_eq_true rfl), (Nat.le_of_ble_eq_true rfl)⟩) g hK (by decide) (by decide) (fx' := [(3, 0, a_2, .int x_3), (10, 2, a0_, .ref a_2), (10, 4, a0_, .ref a_1)]) rfl (fun fr_4 H locs hp hMr_4 g => ?_)
  have hG_5 := RP.frame hMr_4 go_.2.2.2.1 ma0_ ka0_ (by decide) (by decide) hGPa0_
  refine lv_aload_n hx hb dX10_appendMake_14 rfl (lv_at hl 0 rfl) ?_
  refine g_getk (C := RX10) (T := TX10) (N := 10) hx hb hts (mc_ inX10) hown hK g rfl 2 (by decide) rfl (hts _ (List.mem_cons_of_mem _ t_914)) (fun _ h9 => h9) 1 rfl dX10_appendMake_15 ?_
  refine lv_iload_n hx hb dX10_appendMake_18 rfl (lv_at hl 1 rfl) ?_
  obtain ⟨r1_6, r2_7, p1_8, p2_9, m1_10, m2_11, A1_12, A2_13, Q1_14, Q2_15, n1_16, n2_17, k1_18, k2_19, e2_20, e3_21, pk1_22, pk2_23, hap_24⟩ := hG_5
  obtain ⟨⟨hr_25, kr_26⟩, ⟨hp_27, kp_28⟩, ⟨hm_29, km_30⟩, f2_31, f3_32, f0_33, f4_34, b0_35, b4_36, hJ_37, hQ_38, hw_39⟩ := pk1_22
  obtain rfl : a_2 = r1_6 := by have h9 := (fx_at g (i := 1) rfl).2.2.2.symm.trans e2_20; cases h9; rfl
  have g := G3.add g ma_2 ka_2 (by decide) f2_31
  have g := G3.add g ma_2 ka_2 (by decide) f3_32
  obtain rfl : x_3 = n1_16 := by have h9 := (fx_at g (i := 2) rfl).2.2.2.symm.trans f0_33; cases h9; rfl
  have g := G3.add g ma_2 ka_2 (by decide) f4_34
  obtain ⟨⟨hr_40, kr_41⟩, ⟨hp_42, kp_43⟩, ⟨hm_44, km_45⟩, f2_46, f3_47, f0_48, f4_49, b0_50, b4_51, hJ_52, hQ_53, hw_54⟩ := pk2_23
  have g := G3.add g ma0_ ka0_ (by decide) e3_21
  have g := G3.add g hr_40 kr_41 (by decide) f2_46
  have g := G3.add g hr_40 kr_41 (by decide) f3_47
  have g := G3.add g hr_40 kr_41 (by decide) f0_48
  have g := G3.add g hr_40 kr_41 (by decide) f4_49
  have ho_55 := (fx_at g (i := 1) rfl).2.2.2
  have ho_56 := (fx_at g (i := 0) rfl).2.2.2
  have go_ := g
  refine g_callv (va_runV (As := [.int x1_]) (rest := []) ⟨hx, hb, hml, hown, hts⟩ (r_X3_addMakeQ l dC dI L kd tys fr_4 H.size g.2.2.2.1 a_2 ma_2 ka_2 p1_8 hp_27 kp_28 m1_10 hm_29 km_30 A1_12 Q1_14 x_3 bx_3 k1_18 b4_36 hJ_37 hQ_38 hw_39 x1_ bx1_ (g.fcts [8, 5, 7, 6] rfl)) (cwV 1 hts (gV_ t_1481 t_1482 t_1483 t_196 t_1484) rfl rfl rfl (by decide +kernel) ⟨(Nat.le_of_ble_eq_true rfl), (Nat.le_of_ble_eq_true rfl)⟩) (pre3V g hK ma_2 ka_2 (by decide) (q := (RX3, TX3, 6)) rfl) rfl rfl hl.1 rfl (lv_room (Nat.le_of_ble_eq_true rfl)) dX10_appendMake_19 ⟨(Nat.le_of_ble_eq_true rfl), (Nat.le_of_ble_eq_true rfl)⟩) g hK (by decide) (by decide) (fx' := [(3, 3, r2_7, .ref p2_9), (3, 2, r2_7, .ref m2_11), (10, 3, a0_, .ref r2_7), (3, 3, a_2, .ref p1_8), (3, 2, a_2, .ref m1_10), (10, 2, a0_, .ref a_2), (10, 4, a0_, .ref a_1)]) rfl (fun fr_57 H locs hp hMr_57 g => ?_)
  obtain ⟨hx_58, -⟩ := hp
  have hG_59 := arP.frame hMr_57 go_.2.2.2.1 hp_27 kp_28 (by decide) (by decide) hJ_37
  have hG_60 := arP.frame hMr_57 go_.2.2.2.1 hp_42 kp_43 (by decide) (by decide) hJ_52
  obtain ⟨Q_61, n_62, k_63, hQ_64, hU_65, h0_66, h4_67, b0_68, b4_69, hP_70⟩ := hx_58
  have g := G3.add g ma_2 ka_2 (by decide) h0_66
  have g := G3.add g ma_2 ka_2 (by decide) h4_67
  have hQ_71 := QR.oth hU_65 hQ_53 hap_24.2.1 hap_24.2.2
  have g := G3.add g hr_40 kr_41 (by decide) (((hU_65 r2_7 hr_40).1 kr_41 (fun z => hap_24.1 z.symm) 0).trans ho_55)
  have g := G3.add g hr_40 kr_41 (by decide) (((hU_65 r2_7 hr_40).1 kr_41 (fun z => hap_24.1 z.symm) 4).trans ho_56)
  have hP_74 : RP L kd fr_57 a0_ := ⟨a_2, _, _, _, _, _, _, _, _, _, _, _, _, _, (fx_at g (i := 9) rfl).2.2.2, (fx_at g (i := 6) rfl).2.2.2, ⟨⟨ma_2, ka_2⟩, ⟨hp_27, kp_28⟩, ⟨hm_29, km_30⟩, (fx_at g (i := 8) rfl).2.2.2, (fx_at g (i := 7) rfl).2.2.2, (fx_at g (i := 3) rfl).2.2.2, (fx_at g (i := 2) rfl).2.2.2, b0_68, b4_69, hG_59, hQ_64, hP_70.1⟩, ⟨⟨hr_40, kr_41⟩, ⟨hp_42, kp_43⟩, ⟨hm_44, km_45⟩, (fx_at g (i := 5) rfl).2.2.2, (fx_at g (i := 4) rfl).2.2.2, (fx_at g (i := 1) rfl).2.2.2, (fx_at g (i := 0) rfl).2.2.2, b0_50, b4_51, hG_60, hQ_71, hw_54⟩, hap_24⟩
  refine lv_aload_n hx hb dX10_appendMake_22 rfl (lv_at hl 0 rfl) ?_
  refine lv_iconst (v := 0) hx hb dX10_appendMake_23 (by decide) ?_
  have kb_0 : bd 0 0 (0 : Int32) := ⟨by decide, by decide⟩
  have go_ := g
  refine g_put (C := RX10) (T := TX10) (N := 10) hx hb hts (mc_ inX10) tyX10 tyX10_ok nmX10 hown hK g ma0_ ka0_ (by decide) rfl 8 (by decide) (hts _ (List.mem_cons_of_mem _ t_924)) (fun _ h9 => h9) rfl rfl (okV_i (bd_sub kb_0 (by decide))) rfl rfl (by decide) (Or.inr (Or.inl (by decide))) (fx' := [(3, 4, r2_7, .int k2_19), (3, 0, r2_7, .int n2_17), (3, 4, a_2, .int k_63), (3, 0, a_2, .int n_62), (3, 3, r2_7, .ref p2_9), (3, 2, r2_7, .ref m2_11), (10, 3, a0_, .ref r2_7), (3, 3, a_2, .ref p1_8), (3, 2, a_2, .ref m1_10), (10, 2, a0_, .ref a_2), (10, 4, a0_, .ref a_1)]) rfl dX10_appendMake_24 (fun f H locs hM_75 g => ?_)
  have hG_76 := RP.frame hM_75 go_.2.2.2.1 ma0_ ka0_ (by decide) (by decide) hP_74
  refine lv_aload_n hx hb dX10_appendMake_27 rfl (lv_at hl 0 rfl) ?_
  refine g_getk (C := RX10) (T := TX10) (N := 10) hx hb hts (mc_ inX10) hown hK g rfl 2 (by decide) rfl (hts _ (List.mem_cons_of_mem _ t_914)) (fun _ h9 => h9) 10 rfl dX10_appendMake_28 ?_
  refine g_getk (C := RX3) (T := TX3) (N := 6) hx hb hts (mc_ inX3) hown hK g rfl 4 (by decide) rfl (hts _ (List.mem_cons_of_mem _ t_814)) (fun _ h9 => h9) 3 rfl dX10_appendMake_31 ?_
  refine lv_iconst (v := 1) hx hb dX10_appendMake_34 (by decide) ?_
  have kb_1 : bd 1 1 (1 : Int32) := ⟨by decide, by decide⟩
  refine lv_isub hx hb dX10_appendMake_35 ?_
  refine lv_topi (fun y_77 ey_77 => ?_)
  have ty_77 := sub_bd ey_77 b4_69 kb_1 (by decide)
  have b_78 : bd (-1) 2 y_77 := sub_rg ty_77 b4_69 kb_1 (by decide)
  subst hQ
  exact W.iret (v := y_77) hx hb hr (fun t ht hW => ⟨⟨_, _, rfl, ⟨hG_76, b_78, (g.fcts [0] rfl)⟩, q3_of g hK ht hW⟩, g.2.2.1.F ht⟩) g.2.2.1.2.2 dX10_appendMake_36
set_option maxHeartbeats 4000000 in
set_option maxRecDepth 100000 in
theorem r_X11_make (l : Launch) (dC : Nat → ClassId) (dI : Nat → Nat → Nat) (L : List Nat) (kd : Nat → Nat) (tys : List (ClassId × FieldType)) (f0 : Nat → va_E) (sz : Nat) (hWT : WT L kd tys f0) (a0_ : Nat) (ma0_ : a0_ ∈ L) (ka0_ : kd a0_ = 11) (x1_ : Int32) (q0_ : Nat) (mq0_ : q0_ ∈ L) (kq0_ : kd q0_ = 10) (hGPq0_ : RP L kd f0 q0_) (hfx : Fs L kd f0 [(11, 3, a0_, .ref q0_)]) : Met l yX11_make (.code yX11_make cX11_make 2 (some .int) :: lw_g) ({ frames := 3, cells := 0, slots := 0, locals := 68 }) (va_Pc [.ref a0_, .int x1_] (P3 (dC, dI) L tys f0 sz)) (va_Qi (fun (r : Int32) (f : Nat → va_E) => (RP L kd f q0_ ∧ bd (-3) 2 r ∧ True)) (Q3 (dC, dI) L kd tys [(3, 0), (3, 4), (10, 8)] [103, 122, 123, 125, 130, 131] f0 sz) (pA L sz)) 0 0 (pA L sz) := by
  refine Met.ofW (cc := cX11_make) (maxL := 2) (ret := (some .int)) (by decide) rfl ?_
  intro p e s m args below meth c s₁ B hml hv
  obtain ⟨rfl, hsz, hP, hK, hD0⟩ := hv
  have hx := B.exec
  have hb := B.bytes
  have hr := B.returns
  have hts := atoms_spec (ws := (.code yX11_make cX11_make 2 (some .int) :: lw_g)) B.pre
  have hown : s.vm.findClass RX11 = some m.cls := findClass_of_methodNamed B.named
  have hlocks := B.notSynchronized
  subst hsz
  have g : G3 (dC, dI) L kd tys s f0 [(3, 0), (3, 4), (10, 8)] [103, 122, 123, 125, 130, 131] f0 s.heap [] [(11, 3, a0_, .ref q0_)] := G3.start hP hD0 hWT hfx
  have hl := lv_entry ([.ref a0_, .int x1_]) (n := 2) (Nat.le_of_ble_eq_true rfl)
  rw [lg_entry_eq]
  generalize (lg_sl ([.ref a0_, .int x1_]) ++ List.replicate (2 - (lg_sl ([.ref a0_, .int x1_])).length) Slot.unset).toArray = ls at hl ⊢
  have hl : lv_has ls 2 [(0, .ref a0_), (1, .int x1_)] := hl
  refine W_q (fun Q hQ => ?_)
  refine lv_aload_n hx hb dX11_make_0 rfl (lv_at hl 0 rfl) ?_
  refine g_getr (K := 7) (C := RX11) (T := TX11) (N := 8) hx hb hts (mc_ inX11) hown hK g ma0_ ka0_ (by decide) rfl 4 (by decide) rfl (hts _ (List.mem_cons_of_mem _ t_952)) (fun _ h9 => h9) rfl dX11_make_1 (fun a_1 ma_1 ka_1 g => ?_)
  refine lv_iload_n hx hb dX11_make_4 rfl (lv_at hl 1 rfl) ?_
  have go_ := g
  refine g_calli (va_runV (As := [.int x1_]) (rest := []) ⟨hx, hb, hml, hown, hts⟩ (r_X7_hasClass l dC dI L kd tys f0 s.heap.size g.2.2.2.1 a_1 ma_1 ka_1 x1_) (cwV 1 hts (gV_ t_1442 t_1281 t_1282 t_191 t_1283) rfl rfl rfl (by decide +kernel) ⟨(Nat.le_of_ble_eq_true rfl), (Nat.le_of_ble_eq_true rfl)⟩) (pre3V g hK ma_1 ka_1 (by decide) (q := (RX7, TX7, 19)) rfl) rfl rfl hl.1 rfl (lv_room (Nat.le_of_ble_eq_true rfl)) dX11_make_5 ⟨(Nat.le_of_ble_eq_true rfl), (Nat.le_of_ble_eq_true rfl)⟩) g hK (by decide) (by decide) (fx' := [(11, 4, a0_, .ref a_1), (11, 3, a0_, .ref q0_)]) rfl (fun r_2 fr_2 H locs hp hMr_2 g => ?_)
  rcases hp with ⟨h_3, -⟩ | ⟨h_4, h_5, x_6, h_7, hF_8⟩
  · have hG_9 := RP.frame hMr_2 go_.2.2.2.1 mq0_ kq0_ (by decide) (by decide) hGPq0_
    obtain rfl : r_2 = 0 := h_3
    refine lv_if_ne (tgt := 14) hx hb dX11_make_8 (by decide) (fun c_ => absurd c_ (by decide)) (fun c_ => ?_)
    refine lv_bipush (v := (-2)) hx hb dX11_make_11 (by decide) ?_
    have kb_m2 : bd (-2) (-2) ((-2) : Int32) := ⟨by decide, by decide⟩
    subst hQ
    exact W.iret (v := (-2)) hx hb hr (fun t ht hW => ⟨⟨_, _, rfl, ⟨hG_9, (bd_sub kb_m2 (by decide)), trivial⟩, q3_of g hK ht hW⟩, g.2.2.1.F ht⟩) g.2.2.1.2.2 dX11_make_13
  · have hG_10 := RP.frame hMr_2 go_.2.2.2.1 mq0_ kq0_ (by decide) (by decide) hGPq0_
    obtain rfl : r_2 = 1 := h_4
    have b_11 : bd 0 7 x1_ := eqX rfl (bdT x1_) h_5 (by decide)
    have g := g.more hF_8
    refine lv_if_ne (tgt := 14) hx hb dX11_make_8 (by decide) (fun c_ => ?_) (fun c_ => absurd c_ (by decide))
    refine lv_aload_n hx hb dX11_make_14 rfl (lv_at hl 0 rfl) ?_
    refine g_getk (C := RX11) (T := TX11) (N := 8) hx hb hts (mc_ inX11) hown hK g rfl 3 (by decide) rfl (hts _ (List.mem_cons_of_mem _ t_951)) (fun _ h9 => h9) 2 rfl dX11_make_15 ?_
    refine g_getr (K := 3) (C := RX10) (T := TX10) (N := 10) hx hb hts (mc_ inX10) hown hK g mq0_ kq0_ (by decide) rfl 2 (by decide) rfl (hts _ (List.mem_cons_of_mem _ t_915)) (fun _ h9 => h9) rfl dX11_make_18 (fun a_12 ma_12 ka_12 g => ?_)
    have go_ := g
    refine g_calli (va_runV (As := []) (rest := []) ⟨hx, hb, hml, hown, hts⟩ (r_X3_roomForMake l dC dI L kd tys fr_2 H.size g.2.2.2.1 a_12 ma_12 ka_12) (cwV 0 hts (gV_ t_1472 t_1473 t_1474 t_196 t_1475) rfl rfl rfl (by decide +kernel) ⟨(Nat.le_of_ble_eq_true rfl), (Nat.le_of_ble_eq_true rfl)⟩) (pre3V g hK ma_12 ka_12 (by decide) (q := (RX3, TX3, 6)) rfl) rfl rfl hl.1 rfl (lv_room (Nat.le_of_ble_eq_true rfl)) dX11_make_21 ⟨(Nat.le_of_ble_eq_true rfl), (Nat.le_of_ble_eq_true rfl)⟩) g hK (by decide) (by decide) (fx' := [(10, 2, q0_, .ref a_12), (7, 1, a_1, .int x_6), (11, 4, a0_, .ref a_1), (11, 3, a0_, .ref q0_)]) rfl (fun r_13 fr_13 H locs hp hMr_13 g => ?_)
    rcases hp with ⟨h_14, -⟩ | ⟨h_15, x_16, h_17, x_18, h_19, hF_20⟩
    · have hG_21 := RP.frame hMr_13 go_.2.2.2.1 mq0_ kq0_ (by decide) (by decide) hG_10
      obtain rfl : r_13 = 0 := h_14
      refine lv_if_ne (tgt := 30) hx hb dX11_make_24 (by decide) (fun c_ => absurd c_ (by decide)) (fun c_ => ?_)
      refine lv_bipush (v := (-3)) hx hb dX11_make_27 (by decide) ?_
      have kb_m3 : bd (-3) (-3) ((-3) : Int32) := ⟨by decide, by decide⟩
      subst hQ
      exact W.iret (v := (-3)) hx hb hr (fun t ht hW => ⟨⟨_, _, rfl, ⟨hG_21, (bd_sub kb_m3 (by decide)), trivial⟩, q3_of g hK ht hW⟩, g.2.2.1.F ht⟩) g.2.2.1.2.2 dX11_make_29
    · have hG_22 := RP.frame hMr_13 go_.2.2.2.1 mq0_ kq0_ (by decide) (by decide) hG_10
      obtain rfl : r_13 = 1 := h_15
      have g := g.more hF_20
      refine lv_if_ne (tgt := 30) hx hb dX11_make_24 (by decide) (fun c_ => ?_) (fun c_ => absurd c_ (by decide))
      refine lv_aload_n hx hb dX11_make_30 rfl (lv_at hl 0 rfl) ?_
      refine g_getk (C := RX11) (T := TX11) (N := 8) hx hb hts (mc_ inX11) hown hK g rfl 3 (by decide) rfl (hts _ (List.mem_cons_of_mem _ t_951)) (fun _ h9 => h9) 5 rfl dX11_make_31 ?_
      refine lv_iload_n hx hb dX11_make_34 rfl (lv_at hl 1 rfl) ?_
      have go_ := g
      refine g_calli (va_runV (As := [.int x1_]) (rest := []) ⟨hx, hb, hml, hown, hts⟩ (r_X10_appendMake l dC dI L kd tys fr_13 H.size g.2.2.2.1 q0_ mq0_ kq0_ x1_ b_11 hG_22) (cwV 1 hts (gV_ t_1476 t_1477 t_1478 t_194 t_1479) rfl rfl rfl (by decide +kernel) ⟨(Nat.le_of_ble_eq_true rfl), (Nat.le_of_ble_eq_true rfl)⟩) (pre3V g hK mq0_ kq0_ (by decide) (q := (RX10, TX10, 10)) rfl) rfl rfl hl.1 rfl (lv_room (Nat.le_of_ble_eq_true rfl)) dX11_make_35 ⟨(Nat.le_of_ble_eq_true rfl), (Nat.le_of_ble_eq_true rfl)⟩) g hK (by decide) (by decide) (fx' := [(10, 2, q0_, .ref a_12), (7, 1, a_1, .int x_6), (11, 4, a0_, .ref a_1), (11, 3, a0_, .ref q0_)]) rfl (fun r_23 fr_23 H locs hp hMr_23 g => ?_)
      obtain ⟨hG_24, h_25, hF_26⟩ := hp
      have g := g.more hF_26
      subst hQ
      exact W.iret (v := r_23) hx hb hr (fun t ht hW => ⟨⟨_, _, rfl, ⟨hG_24, (bd_sub h_25 (by decide)), trivial⟩, q3_of g hK ht hW⟩, g.2.2.1.F ht⟩) g.2.2.1.2.2 dX11_make_38
set_option maxHeartbeats 4000000 in
set_option maxRecDepth 100000 in
theorem r_X3_tellingOf (l : Launch) (dC : Nat → ClassId) (dI : Nat → Nat → Nat) (L : List Nat) (kd : Nat → Nat) (tys : List (ClassId × FieldType)) (f0 : Nat → va_E) (sz : Nat) (hWT : WT L kd tys f0) (a0_ : Nat) (ma0_ : a0_ ∈ L) (ka0_ : kd a0_ = 3) (a1_ : Nat) (ma1_ : a1_ ∈ L) (ka1_ : kd a1_ = 7) (x2_ : Int32) (bx2_ : bd 0 2 x2_) (x3_ : Int32) (bx3_ : bd 0 11 x3_) (y0_ : Int32) (by0_ : bd 1 8 y0_) (y1_ : Int32) (by1_ : bd 1 3 y1_) (hfx : Fs L kd f0 [(7, 1, a1_, .int y0_), (3, 4, a0_, .int y1_)]) : Met l yX3_tellingOf (.code yX3_tellingOf cX3_tellingOf 4 (some (.object "TrialGarden$Telling")) :: lw_g) ({ frames := 0, cells := 0, slots := 0, locals := 0 }) (va_Pc [.ref a0_, .ref a1_, .int x2_, .int x3_] (P3 (dC, dI) L tys f0 sz)) (va_Qr (fun (_ : Nat → va_E) => True) (fun u b t => (b ∈ L ∧ kd b = 6) ∧ Q3 (dC, dI) L kd tys [] [] f0 sz u t) (pA L sz)) 0 0 (pA L sz) := by
  refine Met.ofW (cc := cX3_tellingOf) (maxL := 4) (ret := (some (.object "TrialGarden$Telling"))) (by decide) rfl ?_
  intro p e s m args below meth c s₁ B hml hv
  obtain ⟨rfl, hsz, hP, hK, hD0⟩ := hv
  have hx := B.exec
  have hb := B.bytes
  have hr := B.returns
  have hts := atoms_spec (ws := (.code yX3_tellingOf cX3_tellingOf 4 (some (.object "TrialGarden$Telling")) :: lw_g)) B.pre
  have hown : s.vm.findClass RX3 = some m.cls := findClass_of_methodNamed B.named
  have hlocks := B.notSynchronized
  subst hsz
  have g : G3 (dC, dI) L kd tys s f0 [] [] f0 s.heap [] [(7, 1, a1_, .int y0_), (3, 4, a0_, .int y1_)] := G3.start hP hD0 hWT hfx
  have hl := lv_entry ([.ref a0_, .ref a1_, .int x2_, .int x3_]) (n := 4) (Nat.le_of_ble_eq_true rfl)
  rw [lg_entry_eq]
  generalize (lg_sl ([.ref a0_, .ref a1_, .int x2_, .int x3_]) ++ List.replicate (4 - (lg_sl ([.ref a0_, .ref a1_, .int x2_, .int x3_])).length) Slot.unset).toArray = ls at hl ⊢
  have hl : lv_has ls 4 [(0, .ref a0_), (1, .ref a1_), (2, .int x2_), (3, .int x3_)] := hl
  refine W_q (fun Q hQ => ?_)
  refine lv_aload_n hx hb dX3_tellingOf_0 rfl (lv_at hl 1 rfl) ?_
  refine g_getr (K := 137) (C := RX7) (T := TX7) (N := 19) hx hb hts (mc_ inX7) hown hK g ma1_ ka1_ (by decide) rfl 2 (by decide) rfl (hts _ (List.mem_cons_of_mem _ t_631)) (fun _ h9 => h9) rfl dX3_tellingOf_1 (fun a_1 ma_1 ka_1 g => ?_)
  refine lv_aload_n hx hb dX3_tellingOf_4 rfl (lv_at hl 1 rfl) ?_
  refine g_getr (K := 136) (C := RX7) (T := TX7) (N := 19) hx hb hts (mc_ inX7) hown hK g ma1_ ka1_ (by decide) rfl 0 (by decide) rfl (hts _ (List.mem_cons_of_mem _ t_622)) (fun _ h9 => h9) rfl dX3_tellingOf_5 (fun a_2 ma_2 ka_2 g => ?_)
  refine lv_aload_n hx hb dX3_tellingOf_8 rfl (lv_at hl 0 rfl) ?_
  refine g_getr (K := 125) (C := RX3) (T := TX3) (N := 6) hx hb hts (mc_ inX3) hown hK g ma0_ ka0_ (by decide) rfl 5 (by decide) rfl (hts _ (List.mem_cons_of_mem _ t_815)) (fun _ h9 => h9) rfl dX3_tellingOf_9 (fun a_3 ma_3 ka_3 g => ?_)
  refine lv_iload_n hx hb dX3_tellingOf_12 rfl (lv_at hl 2 rfl) ?_
  refine g_iald hx hb hK g ma_3 ka_3 (by decide) rfl (in_bd bx2_ (by decide)) dX3_tellingOf_13 (fun x_4 bx_4 cx_4 => ?_)
  refine g_aald hx hb hK g ma_2 ka_2 (by decide) rfl (by decide) (in_bd bx_4 (by decide)) dX3_tellingOf_14 (fun a_5 ma_5 ua_5 wa_5 => ?_)
  have ka_5 : kd a_5 = 9 := by omega
  refine g_getr (K := 156) (C := RX9) (T := TX9) (N := 13) hx hb hts (mc_ inX9) hown hK g ma_5 ka_5 (by decide) rfl 9 (by decide) rfl (hts _ (List.mem_cons_of_mem _ t_505)) (fun _ h9 => h9) rfl dX3_tellingOf_15 (fun a_6 ma_6 ka_6 g => ?_)
  refine lv_iload_n hx hb dX3_tellingOf_18 rfl (lv_at hl 3 rfl) ?_
  refine g_iald hx hb hK g ma_6 ka_6 (by decide) rfl (in_bd bx3_ (by decide)) dX3_tellingOf_19 (fun x_7 bx_7 cx_7 => ?_)
  refine g_aald hx hb hK g ma_1 ka_1 (by decide) rfl (by decide) (in_bd bx_7 (by decide)) dX3_tellingOf_20 (fun a_8 ma_8 ua_8 wa_8 => ?_)
  have ka_8 : kd a_8 = 6 := by omega
  subst hQ
  exact W.aret (v := .ref a_8) hx hb hr (Or.inl ⟨_, rfl⟩) (Or.inr ⟨_, rfl⟩) (fun t ht hW => ⟨⟨_, _, rfl, trivial, ⟨ma_8, ka_8⟩, q3_of g hK ht hW⟩, g.2.2.1.F ht⟩) g.2.2.1.2.2 dX3_tellingOf_21
set_option maxHeartbeats 4000000 in
set_option maxRecDepth 100000 in
theorem r_X6_admits (l : Launch) (dC : Nat → ClassId) (dI : Nat → Nat → Nat) (L : List Nat) (kd : Nat → Nat) (tys : List (ClassId × FieldType)) (f0 : Nat → va_E) (sz : Nat) (hWT : WT L kd tys f0) (a0_ : Nat) (ma0_ : a0_ ∈ L) (ka0_ : kd a0_ = 6) (x1_ : Int32) (x2_ : Int32) : Met l yX6_admits (.code yX6_admits cX6_admits 3 (some .boolean) :: lw_g) ({ frames := 0, cells := 0, slots := 0, locals := 0 }) (va_Pc [.ref a0_, .int x1_, .int x2_] (P3 (dC, dI) L tys f0 sz)) (va_Qi (fun (r : Int32) (f : Nat → va_E) => (r = 0 ∧ True) ∨ (r = 1 ∧ True)) (Q3 (dC, dI) L kd tys [] [] f0 sz) (pA L sz)) 0 0 (pA L sz) := by
  refine Met.ofW (cc := cX6_admits) (maxL := 3) (ret := (some .boolean)) (by decide) rfl ?_
  intro p e s m args below meth c s₁ B hml hv
  obtain ⟨rfl, hsz, hP, hK, hD0⟩ := hv
  have hx := B.exec
  have hb := B.bytes
  have hr := B.returns
  have hts := atoms_spec (ws := (.code yX6_admits cX6_admits 3 (some .boolean) :: lw_g)) B.pre
  have hown : s.vm.findClass RX6 = some m.cls := findClass_of_methodNamed B.named
  have hlocks := B.notSynchronized
  subst hsz
  have g : G3 (dC, dI) L kd tys s f0 [] [] f0 s.heap [] [] := G3.start hP hD0 hWT Fs.nil
  have hl := lv_entry ([.ref a0_, .int x1_, .int x2_]) (n := 3) (Nat.le_of_ble_eq_true rfl)
  rw [lg_entry_eq]
  generalize (lg_sl ([.ref a0_, .int x1_, .int x2_]) ++ List.replicate (3 - (lg_sl ([.ref a0_, .int x1_, .int x2_])).length) Slot.unset).toArray = ls at hl ⊢
  have hl : lv_has ls 3 [(0, .ref a0_), (1, .int x1_), (2, .int x2_)] := hl
  refine W_q (fun Q hQ => ?_)
  refine lv_iload_n hx hb dX6_admits_0 rfl (lv_at hl 1 rfl) ?_
  have kb_0 : bd 0 0 (0 : Int32) := ⟨by decide, by decide⟩
  refine lv_if_lt (tgt := 17) hx hb dX6_admits_1 (by decide) (fun c_1 => ?_) (fun c_1 => ?_)
  · have fc_1 := lt_f c_1
    have b_2 : bd (-2147483648) (-1) x1_ := ltL fc_1 (bdT x1_) kb_0 (by decide)
    refine lv_iload_n hx hb dX6_admits_17 rfl (lv_at hl 2 rfl) ?_
    refine lv_if_ne (tgt := 25) hx hb dX6_admits_18 (by decide) (fun c_3 => ?_) (fun c_3 => ?_)
    · have fc_3 := neq_f c_3
      refine lv_iconst (v := 0) hx hb dX6_admits_25 (by decide) ?_
      subst hQ
      exact W.zret (v := 0) hx hb hr (nar_z (bd_sub kb_0 (by decide) : bd 0 1 _).1 (bd_sub kb_0 (by decide) : bd 0 1 _).2) (fun t ht hW => ⟨⟨_, _, rfl, Or.inl ⟨rfl, trivial⟩, q3_of g hK ht hW⟩, g.2.2.1.F ht⟩) g.2.2.1.2.2 dX6_admits_26
    · have fc_3 := eq_f c_3
      have b_4 : bd 0 0 x2_ := eqX fc_3 (bdT x2_) kb_0 (by decide)
      refine lv_iconst (v := 1) hx hb dX6_admits_21 (by decide) ?_
      refine lv_goto (tgt := 26) hx hb dX6_admits_22 (by decide) ?_
      subst hQ
      have kb_1 : bd 1 1 (1 : Int32) := ⟨by decide, by decide⟩
      exact W.zret (v := 1) hx hb hr (nar_z (bd_sub kb_1 (by decide) : bd 0 1 _).1 (bd_sub kb_1 (by decide) : bd 0 1 _).2) (fun t ht hW => ⟨⟨_, _, rfl, Or.inr (⟨rfl, trivial⟩), q3_of g hK ht hW⟩, g.2.2.1.F ht⟩) g.2.2.1.2.2 dX6_admits_26
  · have fc_1 := nlt_f c_1
    have b_5 : bd 0 2147483647 x1_ := leR fc_1 kb_0 (bdT x1_) (by decide)
    refine lv_iload_n hx hb dX6_admits_4 rfl (lv_at hl 1 rfl) ?_
    refine lv_aload_n hx hb dX6_admits_5 rfl (lv_at hl 0 rfl) ?_
    refine g_geti (C := RX6) (T := TX6) (N := 13) hx hb hts (mc_ inX6) hown hK g ma0_ ka0_ (by decide) rfl 3 (by decide) rfl (hts _ (List.mem_cons_of_mem _ t_562)) (fun _ h9 => h9) rfl dX6_admits_6 (fun x_6 bx_6 g => ?_)
    refine lv_icmp_ge (tgt := 17) hx hb dX6_admits_9 (by decide) (fun c_7 => ?_) (fun c_7 => ?_)
    · have fc_7 := le_f c_7
      refine lv_iload_n hx hb dX6_admits_17 rfl (lv_at hl 2 rfl) ?_
      refine lv_if_ne (tgt := 25) hx hb dX6_admits_18 (by decide) (fun c_8 => ?_) (fun c_8 => ?_)
      · have fc_8 := neq_f c_8
        refine lv_iconst (v := 0) hx hb dX6_admits_25 (by decide) ?_
        subst hQ
        exact W.zret (v := 0) hx hb hr (nar_z (bd_sub kb_0 (by decide) : bd 0 1 _).1 (bd_sub kb_0 (by decide) : bd 0 1 _).2) (fun t ht hW => ⟨⟨_, _, rfl, Or.inl ⟨rfl, trivial⟩, q3_of g hK ht hW⟩, g.2.2.1.F ht⟩) g.2.2.1.2.2 dX6_admits_26
      · have fc_8 := eq_f c_8
        have b_9 : bd 0 0 x2_ := eqX fc_8 (bdT x2_) kb_0 (by decide)
        refine lv_iconst (v := 1) hx hb dX6_admits_21 (by decide) ?_
        refine lv_goto (tgt := 26) hx hb dX6_admits_22 (by decide) ?_
        subst hQ
        have kb_1 : bd 1 1 (1 : Int32) := ⟨by decide, by decide⟩
        exact W.zret (v := 1) hx hb hr (nar_z (bd_sub kb_1 (by decide) : bd 0 1 _).1 (bd_sub kb_1 (by decide) : bd 0 1 _).2) (fun t ht hW => ⟨⟨_, _, rfl, Or.inr (⟨rfl, trivial⟩), q3_of g hK ht hW⟩, g.2.2.1.F ht⟩) g.2.2.1.2.2 dX6_admits_26
    · have fc_7 := nle_f c_7
      have b_10 : bd 0 2 x1_ := ltL fc_7 b_5 bx_6 (by decide)
      have b_11 : bd 1 3 x_6 := ltR fc_7 b_5 bx_6 (by decide)
      refine lv_iload_n hx hb dX6_admits_12 rfl (lv_at hl 1 rfl) ?_
      refine lv_iconst (v := 3) hx hb dX6_admits_13 (by decide) ?_
      have kb_3 : bd 3 3 (3 : Int32) := ⟨by decide, by decide⟩
      refine lv_icmp_lt (tgt := 27) hx hb dX6_admits_14 (by decide) (fun c_12 => ?_) (fun c_12 => ?_)
      · have fc_12 := lt_f c_12
        refine lv_iload_n hx hb dX6_admits_27 rfl (lv_at hl 2 rfl) ?_
        refine lv_aload_n hx hb dX6_admits_28 rfl (lv_at hl 0 rfl) ?_
        refine g_getr (K := 134) (C := RX6) (T := TX6) (N := 13) hx hb hts (mc_ inX6) hown hK g ma0_ ka0_ (by decide) rfl 4 (by decide) rfl (hts _ (List.mem_cons_of_mem _ t_569)) (fun _ h9 => h9) rfl dX6_admits_29 (fun a_13 ma_13 ka_13 g => ?_)
        refine lv_iload_n hx hb dX6_admits_32 rfl (lv_at hl 1 rfl) ?_
        refine g_iald hx hb hK g ma_13 ka_13 (by decide) rfl (in_bd b_10 (by decide)) dX6_admits_33 (fun x_14 bx_14 cx_14 => ?_)
        refine lv_icmp_lt (tgt := 51) hx hb dX6_admits_34 (by decide) (fun c_15 => ?_) (fun c_15 => ?_)
        · have fc_15 := lt_f c_15
          have b_16 : bd (-2147483648) 2147483646 x2_ := ltL fc_15 (bdT x2_) (bdT x_14) (by decide)
          have b_17 : bd (-2147483647) 2147483647 x_14 := ltR fc_15 (bdT x2_) (bdT x_14) (by decide)
          refine lv_iconst (v := 0) hx hb dX6_admits_51 (by decide) ?_
          subst hQ
          exact W.zret (v := 0) hx hb hr (nar_z (bd_sub kb_0 (by decide) : bd 0 1 _).1 (bd_sub kb_0 (by decide) : bd 0 1 _).2) (fun t ht hW => ⟨⟨_, _, rfl, Or.inl ⟨rfl, trivial⟩, q3_of g hK ht hW⟩, g.2.2.1.F ht⟩) g.2.2.1.2.2 dX6_admits_52
        · have fc_15 := nlt_f c_15
          refine lv_iload_n hx hb dX6_admits_37 rfl (lv_at hl 2 rfl) ?_
          refine lv_aload_n hx hb dX6_admits_38 rfl (lv_at hl 0 rfl) ?_
          refine g_getr (K := 135) (C := RX6) (T := TX6) (N := 13) hx hb hts (mc_ inX6) hown hK g ma0_ ka0_ (by decide) rfl 5 (by decide) rfl (hts _ (List.mem_cons_of_mem _ t_573)) (fun _ h9 => h9) rfl dX6_admits_39 (fun a_18 ma_18 ka_18 g => ?_)
          refine lv_iload_n hx hb dX6_admits_42 rfl (lv_at hl 1 rfl) ?_
          refine g_iald hx hb hK g ma_18 ka_18 (by decide) rfl (in_bd b_10 (by decide)) dX6_admits_43 (fun x_19 bx_19 cx_19 => ?_)
          refine lv_icmp_gt (tgt := 51) hx hb dX6_admits_44 (by decide) (fun c_20 => ?_) (fun c_20 => ?_)
          · have fc_20 := lt_f c_20
            have b_21 : bd (-2147483648) 2147483646 x_19 := ltL fc_20 (bdT x_19) (bdT x2_) (by decide)
            have b_22 : bd (-2147483647) 2147483647 x2_ := ltR fc_20 (bdT x_19) (bdT x2_) (by decide)
            refine lv_iconst (v := 0) hx hb dX6_admits_51 (by decide) ?_
            subst hQ
            exact W.zret (v := 0) hx hb hr (nar_z (bd_sub kb_0 (by decide) : bd 0 1 _).1 (bd_sub kb_0 (by decide) : bd 0 1 _).2) (fun t ht hW => ⟨⟨_, _, rfl, Or.inl ⟨rfl, trivial⟩, q3_of g hK ht hW⟩, g.2.2.1.F ht⟩) g.2.2.1.2.2 dX6_admits_52
          · have fc_20 := nlt_f c_20
            refine lv_iconst (v := 1) hx hb dX6_admits_47 (by decide) ?_
            refine lv_goto (tgt := 52) hx hb dX6_admits_48 (by decide) ?_
            subst hQ
            have kb_1 : bd 1 1 (1 : Int32) := ⟨by decide, by decide⟩
            exact W.zret (v := 1) hx hb hr (nar_z (bd_sub kb_1 (by decide) : bd 0 1 _).1 (bd_sub kb_1 (by decide) : bd 0 1 _).2) (fun t ht hW => ⟨⟨_, _, rfl, Or.inr (⟨rfl, trivial⟩), q3_of g hK ht hW⟩, g.2.2.1.F ht⟩) g.2.2.1.2.2 dX6_admits_52
      · have fc_12 := nlt_f c_12
        have b_23 : bd 3 2 (3 : Int32) := leL fc_12 kb_3 b_10 (by decide)
        exact bd_no (eqX rfl b_23 kb_3 (lo := 3) (hi := 2) (by decide)) (by decide)
set_option maxHeartbeats 4000000 in
set_option maxRecDepth 100000 in
theorem r_X3_mayTake (l : Launch) (dC : Nat → ClassId) (dI : Nat → Nat → Nat) (L : List Nat) (kd : Nat → Nat) (tys : List (ClassId × FieldType)) (f0 : Nat → va_E) (sz : Nat) (hWT : WT L kd tys f0) (a0_ : Nat) (ma0_ : a0_ ∈ L) (ka0_ : kd a0_ = 3) (a1_ : Nat) (ma1_ : a1_ ∈ L) (ka1_ : kd a1_ = 7) (x2_ : Int32) (x3_ : Int32) (x4_ : Int32) (x5_ : Int32) (x6_ : Int32) : Met l yX3_mayTake (.code yX3_mayTake cX3_mayTake 8 (some .boolean) :: lw_g) ({ frames := 2, cells := 0, slots := 0, locals := 43 }) (va_Pc [.ref a0_, .ref a1_, .int x2_, .int x3_, .int x4_, .int x5_, .int x6_] (P3 (dC, dI) L tys f0 sz)) (va_Qi (fun (r : Int32) (f : Nat → va_E) => (r = 0 ∧ True) ∨ (r = 1 ∧ bd 0 2 x2_ ∧ bd 0 11 x3_ ∧ ∃ z0_ : Int32, bd 1 8 z0_ ∧ ∃ z1_ : Int32, bd 1 3 z1_ ∧ Fs L kd f [(7, 1, a1_, .int z0_), (3, 4, a0_, .int z1_)])) (Q3 (dC, dI) L kd tys [] [] f0 sz) (pA L sz)) 0 0 (pA L sz) := by
  refine Met.ofW (cc := cX3_mayTake) (maxL := 8) (ret := (some .boolean)) (by decide) rfl ?_
  intro p e s m args below meth c s₁ B hml hv
  obtain ⟨rfl, hsz, hP, hK, hD0⟩ := hv
  have hx := B.exec
  have hb := B.bytes
  have hr := B.returns
  have hts := atoms_spec (ws := (.code yX3_mayTake cX3_mayTake 8 (some .boolean) :: lw_g)) B.pre
  have hown : s.vm.findClass RX3 = some m.cls := findClass_of_methodNamed B.named
  have hlocks := B.notSynchronized
  subst hsz
  have g : G3 (dC, dI) L kd tys s f0 [] [] f0 s.heap [] [] := G3.start hP hD0 hWT Fs.nil
  have hl := lv_entry ([.ref a0_, .ref a1_, .int x2_, .int x3_, .int x4_, .int x5_, .int x6_]) (n := 8) (Nat.le_of_ble_eq_true rfl)
  rw [lg_entry_eq]
  generalize (lg_sl ([.ref a0_, .ref a1_, .int x2_, .int x3_, .int x4_, .int x5_, .int x6_]) ++ List.replicate (8 - (lg_sl ([.ref a0_, .ref a1_, .int x2_, .int x3_, .int x4_, .int x5_, .int x6_])).length) Slot.unset).toArray = ls at hl ⊢
  have hl : lv_has ls 8 [(0, .ref a0_), (1, .ref a1_), (2, .int x2_), (3, .int x3_), (4, .int x4_), (5, .int x5_), (6, .int x6_)] := hl
  refine W_q (fun Q hQ => ?_)
  refine lv_iload_n hx hb dX3_mayTake_0 rfl (lv_at hl 2 rfl) ?_
  have kb_0 : bd 0 0 (0 : Int32) := ⟨by decide, by decide⟩
  refine lv_if_lt (tgt := 26) hx hb dX3_mayTake_1 (by decide) (fun c_1 => ?_) (fun c_1 => ?_)
  · have fc_1 := lt_f c_1
    have b_2 : bd (-2147483648) (-1) x2_ := ltL fc_1 (bdT x2_) kb_0 (by decide)
    refine lv_iconst (v := 0) hx hb dX3_mayTake_26 (by decide) ?_
    subst hQ
    exact W.zret (v := 0) hx hb hr (nar_z (bd_sub kb_0 (by decide) : bd 0 1 _).1 (bd_sub kb_0 (by decide) : bd 0 1 _).2) (fun t ht hW => ⟨⟨_, _, rfl, Or.inl ⟨rfl, trivial⟩, q3_of g hK ht hW⟩, g.2.2.1.F ht⟩) g.2.2.1.2.2 dX3_mayTake_27
  · have fc_1 := nlt_f c_1
    have b_3 : bd 0 2147483647 x2_ := leR fc_1 kb_0 (bdT x2_) (by decide)
    refine lv_iload_n hx hb dX3_mayTake_4 rfl (lv_at hl 2 rfl) ?_
    refine lv_aload_n hx hb dX3_mayTake_5 rfl (lv_at hl 0 rfl) ?_
    refine g_geti (C := RX3) (T := TX3) (N := 6) hx hb hts (mc_ inX3) hown hK g ma0_ ka0_ (by decide) rfl 4 (by decide) rfl (hts _ (List.mem_cons_of_mem _ t_813)) (fun _ h9 => h9) rfl dX3_mayTake_6 (fun x_4 bx_4 g => ?_)
    refine lv_icmp_ge (tgt := 26) hx hb dX3_mayTake_9 (by decide) (fun c_5 => ?_) (fun c_5 => ?_)
    · have fc_5 := le_f c_5
      refine lv_iconst (v := 0) hx hb dX3_mayTake_26 (by decide) ?_
      subst hQ
      exact W.zret (v := 0) hx hb hr (nar_z (bd_sub kb_0 (by decide) : bd 0 1 _).1 (bd_sub kb_0 (by decide) : bd 0 1 _).2) (fun t ht hW => ⟨⟨_, _, rfl, Or.inl ⟨rfl, trivial⟩, q3_of g hK ht hW⟩, g.2.2.1.F ht⟩) g.2.2.1.2.2 dX3_mayTake_27
    · have fc_5 := nle_f c_5
      have b_6 : bd 0 2 x2_ := ltL fc_5 b_3 bx_4 (by decide)
      have b_7 : bd 1 3 x_4 := ltR fc_5 b_3 bx_4 (by decide)
      refine lv_aload_n hx hb dX3_mayTake_12 rfl (lv_at hl 1 rfl) ?_
      refine lv_aload_n hx hb dX3_mayTake_13 rfl (lv_at hl 0 rfl) ?_
      refine g_getr (K := 125) (C := RX3) (T := TX3) (N := 6) hx hb hts (mc_ inX3) hown hK g ma0_ ka0_ (by decide) rfl 5 (by decide) rfl (hts _ (List.mem_cons_of_mem _ t_815)) (fun _ h9 => h9) rfl dX3_mayTake_14 (fun a_8 ma_8 ka_8 g => ?_)
      refine lv_iload_n hx hb dX3_mayTake_17 rfl (lv_at hl 2 rfl) ?_
      refine g_iald hx hb hK g ma_8 ka_8 (by decide) rfl (in_bd b_6 (by decide)) dX3_mayTake_18 (fun x_9 bx_9 cx_9 => ?_)
      refine lv_iload_n hx hb dX3_mayTake_19 rfl (lv_at hl 3 rfl) ?_
      refine g_calli (va_runV (As := [.int x_9, .int x3_]) (rest := []) ⟨hx, hb, hml, hown, hts⟩ (r_X7_hasMember l dC dI L kd tys f0 s.heap.size g.2.2.2.1 a1_ ma1_ ka1_ x_9 x3_) (cwV 2 hts (gV_ t_1497 t_1448 t_1449 t_191 t_1450) rfl rfl rfl (by decide +kernel) ⟨(Nat.le_of_ble_eq_true rfl), (Nat.le_of_ble_eq_true rfl)⟩) (pre3V g hK ma1_ ka1_ (by decide) (q := (RX7, TX7, 19)) rfl) rfl rfl hl.1 rfl (lv_room (Nat.le_of_ble_eq_true rfl)) dX3_mayTake_20 ⟨(Nat.le_of_ble_eq_true rfl), (Nat.le_of_ble_eq_true rfl)⟩) g hK (by decide) (by decide) (fx' := [(3, 5, a0_, .ref a_8), (3, 4, a0_, .int x_4)]) rfl (fun r_10 fr_10 H locs hp hMr_10 g => ?_)
      rcases hp with ⟨h_11, -⟩ | ⟨h_12, h_13, h_14, x_15, h_16, hF_17⟩
      · obtain rfl : r_10 = 0 := h_11
        refine lv_if_ne (tgt := 28) hx hb dX3_mayTake_23 (by decide) (fun c_ => absurd c_ (by decide)) (fun c_ => ?_)
        refine lv_iconst (v := 0) hx hb dX3_mayTake_26 (by decide) ?_
        subst hQ
        exact W.zret (v := 0) hx hb hr (nar_z (bd_sub kb_0 (by decide) : bd 0 1 _).1 (bd_sub kb_0 (by decide) : bd 0 1 _).2) (fun t ht hW => ⟨⟨_, _, rfl, Or.inl ⟨rfl, trivial⟩, q3_of g hK ht hW⟩, g.2.2.1.F ht⟩) g.2.2.1.2.2 dX3_mayTake_27
      · obtain rfl : r_10 = 1 := h_12
        have b_18 : bd 0 11 x3_ := eqX rfl (bdT x3_) h_14 (by decide)
        have g := g.more hF_17
        refine lv_if_ne (tgt := 28) hx hb dX3_mayTake_23 (by decide) (fun c_ => ?_) (fun c_ => absurd c_ (by decide))
        refine lv_aload_n hx hb dX3_mayTake_28 rfl (lv_at hl 0 rfl) ?_
        refine lv_aload_n hx hb dX3_mayTake_29 rfl (lv_at hl 1 rfl) ?_
        refine lv_iload_n hx hb dX3_mayTake_30 rfl (lv_at hl 2 rfl) ?_
        refine lv_iload_n hx hb dX3_mayTake_31 rfl (lv_at hl 3 rfl) ?_
        refine g_callr (va_runV (As := [.ref a1_, .int x2_, .int x3_]) (rest := []) ⟨hx, hb, hml, hown, hts⟩ (r_X3_tellingOf l dC dI L kd tys fr_10 H.size g.2.2.2.1 a0_ ma0_ ka0_ a1_ ma1_ ka1_ x2_ b_6 x3_ b_18 x_15 h_16 x_4 b_7 (g.fcts [0, 2] rfl)) (cwV 3 hts (gV_ t_1498 t_1500 t_53 t_196 t_1501) rfl rfl rfl (by decide +kernel) ⟨(Nat.le_of_ble_eq_true rfl), (Nat.le_of_ble_eq_true rfl)⟩) (pre3V g hK ma0_ ka0_ (by decide) (q := (RX3, TX3, 6)) rfl) rfl rfl hl.1 rfl (lv_room (Nat.le_of_ble_eq_true rfl)) dX3_mayTake_32 ⟨(Nat.le_of_ble_eq_true rfl), (Nat.le_of_ble_eq_true rfl)⟩) g hK (by decide) (by decide) (fx' := [(7, 1, a1_, .int x_15), (3, 5, a0_, .ref a_8), (3, 4, a0_, .int x_4)]) rfl (fun r_19 fr_19 H locs hp hMr_19 g => ?_)
        obtain ⟨mr_19, kr_19⟩ := hp
        refine lv_astore (lv' := [(7, .ref r_19), (0, .ref a0_), (1, .ref a1_), (2, .int x2_), (3, .int x3_), (4, .int x4_), (5, .int x5_), (6, .int x6_)]) hx hb dX3_mayTake_35 hl (by decide) rfl (fun ls hl => ?_)
        refine lv_aload hx hb dX3_mayTake_37 (lv_at hl 0 rfl) ?_
        refine lv_iconst (v := 0) hx hb dX3_mayTake_39 (by decide) ?_
        refine lv_iload hx hb dX3_mayTake_40 (lv_at hl 5 rfl) ?_
        refine g_calli (va_runV (As := [.int 0, .int x4_]) (rest := []) ⟨hx, hb, hml, hown, hts⟩ (r_X6_admits l dC dI L kd tys fr_19 H.size g.2.2.2.1 r_19 mr_19 kr_19 0 x4_) (cwV 2 hts (gV_ t_1502 t_1503 t_1504 t_193 t_1505) rfl rfl rfl (by decide +kernel) ⟨(Nat.le_of_ble_eq_true rfl), (Nat.le_of_ble_eq_true rfl)⟩) (pre3V g hK mr_19 kr_19 (by decide) (q := (RX6, TX6, 13)) rfl) rfl rfl hl.1 rfl (lv_room (Nat.le_of_ble_eq_true rfl)) dX3_mayTake_42 ⟨(Nat.le_of_ble_eq_true rfl), (Nat.le_of_ble_eq_true rfl)⟩) g hK (by decide) (by decide) (fx' := [(7, 1, a1_, .int x_15), (3, 5, a0_, .ref a_8), (3, 4, a0_, .int x_4)]) rfl (fun r_20 fr_20 H locs hp hMr_20 g => ?_)
        rcases hp with ⟨h_21, -⟩ | ⟨h_22, -⟩
        · obtain rfl : r_20 = 0 := h_21
          refine lv_if_eq (tgt := 74) hx hb dX3_mayTake_45 (by decide) (fun c_ => ?_) (fun c_ => absurd (by decide) c_)
          refine lv_iconst (v := 0) hx hb dX3_mayTake_74 (by decide) ?_
          subst hQ
          exact W.zret (v := 0) hx hb hr (nar_z (bd_sub kb_0 (by decide) : bd 0 1 _).1 (bd_sub kb_0 (by decide) : bd 0 1 _).2) (fun t ht hW => ⟨⟨_, _, rfl, Or.inl ⟨rfl, trivial⟩, q3_of g hK ht hW⟩, g.2.2.1.F ht⟩) g.2.2.1.2.2 dX3_mayTake_75
        · obtain rfl : r_20 = 1 := h_22
          refine lv_if_eq (tgt := 74) hx hb dX3_mayTake_45 (by decide) (fun c_ => absurd c_ (by decide)) (fun c_ => ?_)
          refine lv_aload hx hb dX3_mayTake_48 (lv_at hl 0 rfl) ?_
          refine lv_iconst (v := 1) hx hb dX3_mayTake_50 (by decide) ?_
          refine lv_iload hx hb dX3_mayTake_51 (lv_at hl 6 rfl) ?_
          refine g_calli (va_runV (As := [.int 1, .int x5_]) (rest := []) ⟨hx, hb, hml, hown, hts⟩ (r_X6_admits l dC dI L kd tys fr_20 H.size g.2.2.2.1 r_19 mr_19 kr_19 1 x5_) (cwV 2 hts (gV_ t_1502 t_1503 t_1504 t_193 t_1505) rfl rfl rfl (by decide +kernel) ⟨(Nat.le_of_ble_eq_true rfl), (Nat.le_of_ble_eq_true rfl)⟩) (pre3V g hK mr_19 kr_19 (by decide) (q := (RX6, TX6, 13)) rfl) rfl rfl hl.1 rfl (lv_room (Nat.le_of_ble_eq_true rfl)) dX3_mayTake_53 ⟨(Nat.le_of_ble_eq_true rfl), (Nat.le_of_ble_eq_true rfl)⟩) g hK (by decide) (by decide) (fx' := [(7, 1, a1_, .int x_15), (3, 5, a0_, .ref a_8), (3, 4, a0_, .int x_4)]) rfl (fun r_23 fr_23 H locs hp hMr_23 g => ?_)
          rcases hp with ⟨h_24, -⟩ | ⟨h_25, -⟩
          · obtain rfl : r_23 = 0 := h_24
            refine lv_if_eq (tgt := 74) hx hb dX3_mayTake_56 (by decide) (fun c_ => ?_) (fun c_ => absurd (by decide) c_)
            refine lv_iconst (v := 0) hx hb dX3_mayTake_74 (by decide) ?_
            subst hQ
            exact W.zret (v := 0) hx hb hr (nar_z (bd_sub kb_0 (by decide) : bd 0 1 _).1 (bd_sub kb_0 (by decide) : bd 0 1 _).2) (fun t ht hW => ⟨⟨_, _, rfl, Or.inl ⟨rfl, trivial⟩, q3_of g hK ht hW⟩, g.2.2.1.F ht⟩) g.2.2.1.2.2 dX3_mayTake_75
          · obtain rfl : r_23 = 1 := h_25
            refine lv_if_eq (tgt := 74) hx hb dX3_mayTake_56 (by decide) (fun c_ => absurd c_ (by decide)) (fun c_ => ?_)
            refine lv_aload hx hb dX3_mayTake_59 (lv_at hl 0 rfl) ?_
            refine lv_iconst (v := 2) hx hb dX3_mayTake_61 (by decide) ?_
            refine lv_iload hx hb dX3_mayTake_62 (lv_at hl 7 rfl) ?_
            refine g_calli (va_runV (As := [.int 2, .int x6_]) (rest := []) ⟨hx, hb, hml, hown, hts⟩ (r_X6_admits l dC dI L kd tys fr_23 H.size g.2.2.2.1 r_19 mr_19 kr_19 2 x6_) (cwV 2 hts (gV_ t_1502 t_1503 t_1504 t_193 t_1505) rfl rfl rfl (by decide +kernel) ⟨(Nat.le_of_ble_eq_true rfl), (Nat.le_of_ble_eq_true rfl)⟩) (pre3V g hK mr_19 kr_19 (by decide) (q := (RX6, TX6, 13)) rfl) rfl rfl hl.1 rfl (lv_room (Nat.le_of_ble_eq_true rfl)) dX3_mayTake_64 ⟨(Nat.le_of_ble_eq_true rfl), (Nat.le_of_ble_eq_true rfl)⟩) g hK (by decide) (by decide) (fx' := [(7, 1, a1_, .int x_15), (3, 5, a0_, .ref a_8), (3, 4, a0_, .int x_4)]) rfl (fun r_26 fr_26 H locs hp hMr_26 g => ?_)
            rcases hp with ⟨h_27, -⟩ | ⟨h_28, -⟩
            · obtain rfl : r_26 = 0 := h_27
              refine lv_if_eq (tgt := 74) hx hb dX3_mayTake_67 (by decide) (fun c_ => ?_) (fun c_ => absurd (by decide) c_)
              refine lv_iconst (v := 0) hx hb dX3_mayTake_74 (by decide) ?_
              subst hQ
              exact W.zret (v := 0) hx hb hr (nar_z (bd_sub kb_0 (by decide) : bd 0 1 _).1 (bd_sub kb_0 (by decide) : bd 0 1 _).2) (fun t ht hW => ⟨⟨_, _, rfl, Or.inl ⟨rfl, trivial⟩, q3_of g hK ht hW⟩, g.2.2.1.F ht⟩) g.2.2.1.2.2 dX3_mayTake_75
            · obtain rfl : r_26 = 1 := h_28
              refine lv_if_eq (tgt := 74) hx hb dX3_mayTake_67 (by decide) (fun c_ => absurd c_ (by decide)) (fun c_ => ?_)
              refine lv_iconst (v := 1) hx hb dX3_mayTake_70 (by decide) ?_
              refine lv_goto (tgt := 75) hx hb dX3_mayTake_71 (by decide) ?_
              subst hQ
              have kb_1 : bd 1 1 (1 : Int32) := ⟨by decide, by decide⟩
              exact W.zret (v := 1) hx hb hr (nar_z (bd_sub kb_1 (by decide) : bd 0 1 _).1 (bd_sub kb_1 (by decide) : bd 0 1 _).2) (fun t ht hW => ⟨⟨_, _, rfl, Or.inr (⟨rfl, b_6, b_18, x_15, h_16, x_4, b_7, (g.fcts [0, 2] rfl)⟩), q3_of g hK ht hW⟩, g.2.2.1.F ht⟩) g.2.2.1.2.2 dX3_mayTake_75
set_option maxHeartbeats 4000000 in
set_option maxRecDepth 100000 in
theorem r_X3_roomForCall (l : Launch) (dC : Nat → ClassId) (dI : Nat → Nat → Nat) (L : List Nat) (kd : Nat → Nat) (tys : List (ClassId × FieldType)) (f0 : Nat → va_E) (sz : Nat) (hWT : WT L kd tys f0) (a0_ : Nat) (ma0_ : a0_ ∈ L) (ka0_ : kd a0_ = 3) : Met l yX3_roomForCall (.code yX3_roomForCall cX3_roomForCall 1 (some .boolean) :: lw_g) ({ frames := 0, cells := 0, slots := 0, locals := 0 }) (va_Pc [.ref a0_] (P3 (dC, dI) L tys f0 sz)) (va_Qi (fun (r : Int32) (f : Nat → va_E) => (r = 0 ∧ ∃ z0_ : Int32, bd 10 10 z0_ ∧ Fs L kd f [(3, 0, a0_, .int z0_)]) ∨ (r = 1 ∧ ∃ z0_ : Int32, bd 0 9 z0_ ∧ Fs L kd f [(3, 0, a0_, .int z0_)])) (Q3 (dC, dI) L kd tys [] [] f0 sz) (pA L sz)) 0 0 (pA L sz) := by
  refine Met.ofW (cc := cX3_roomForCall) (maxL := 1) (ret := (some .boolean)) (by decide) rfl ?_
  intro p e s m args below meth c s₁ B hml hv
  obtain ⟨rfl, hsz, hP, hK, hD0⟩ := hv
  have hx := B.exec
  have hb := B.bytes
  have hr := B.returns
  have hts := atoms_spec (ws := (.code yX3_roomForCall cX3_roomForCall 1 (some .boolean) :: lw_g)) B.pre
  have hown : s.vm.findClass RX3 = some m.cls := findClass_of_methodNamed B.named
  have hlocks := B.notSynchronized
  subst hsz
  have g : G3 (dC, dI) L kd tys s f0 [] [] f0 s.heap [] [] := G3.start hP hD0 hWT Fs.nil
  have hl := lv_entry ([.ref a0_]) (n := 1) (Nat.le_of_ble_eq_true rfl)
  rw [lg_entry_eq]
  generalize (lg_sl ([.ref a0_]) ++ List.replicate (1 - (lg_sl ([.ref a0_])).length) Slot.unset).toArray = ls at hl ⊢
  have hl : lv_has ls 1 [(0, .ref a0_)] := hl
  refine W_q (fun Q hQ => ?_)
  refine lv_aload_n hx hb dX3_roomForCall_0 rfl (lv_at hl 0 rfl) ?_
  refine g_geti (C := RX3) (T := TX3) (N := 6) hx hb hts (mc_ inX3) hown hK g ma0_ ka0_ (by decide) rfl 0 (by decide) rfl (hts _ (List.mem_cons_of_mem _ t_801)) (fun _ h9 => h9) rfl dX3_roomForCall_1 (fun x_1 bx_1 g => ?_)
  refine lv_bipush (v := 10) hx hb dX3_roomForCall_4 (by decide) ?_
  have kb_10 : bd 10 10 (10 : Int32) := ⟨by decide, by decide⟩
  refine lv_icmp_ge (tgt := 13) hx hb dX3_roomForCall_6 (by decide) (fun c_2 => ?_) (fun c_2 => ?_)
  · have fc_2 := le_f c_2
    have b_3 : bd 10 10 x_1 := leR fc_2 kb_10 bx_1 (by decide)
    refine lv_iconst (v := 0) hx hb dX3_roomForCall_13 (by decide) ?_
    subst hQ
    have kb_0 : bd 0 0 (0 : Int32) := ⟨by decide, by decide⟩
    exact W.zret (v := 0) hx hb hr (nar_z (bd_sub kb_0 (by decide) : bd 0 1 _).1 (bd_sub kb_0 (by decide) : bd 0 1 _).2) (fun t ht hW => ⟨⟨_, _, rfl, Or.inl ⟨rfl, x_1, b_3, (g.fcts [0] rfl)⟩, q3_of g hK ht hW⟩, g.2.2.1.F ht⟩) g.2.2.1.2.2 dX3_roomForCall_14
  · have fc_2 := nle_f c_2
    have b_4 : bd 0 9 x_1 := ltL fc_2 bx_1 kb_10 (by decide)
    refine lv_iconst (v := 1) hx hb dX3_roomForCall_9 (by decide) ?_
    refine lv_goto (tgt := 14) hx hb dX3_roomForCall_10 (by decide) ?_
    subst hQ
    have kb_1 : bd 1 1 (1 : Int32) := ⟨by decide, by decide⟩
    exact W.zret (v := 1) hx hb hr (nar_z (bd_sub kb_1 (by decide) : bd 0 1 _).1 (bd_sub kb_1 (by decide) : bd 0 1 _).2) (fun t ht hW => ⟨⟨_, _, rfl, Or.inr (⟨rfl, x_1, b_4, (g.fcts [0] rfl)⟩), q3_of g hK ht hW⟩, g.2.2.1.F ht⟩) g.2.2.1.2.2 dX3_roomForCall_14
set_option maxHeartbeats 4000000 in
set_option maxRecDepth 100000 in
theorem r_X3_addCallQ (l : Launch) (dC : Nat → ClassId) (dI : Nat → Nat → Nat) (L : List Nat) (kd : Nat → Nat) (tys : List (ClassId × FieldType)) (f0 : Nat → va_E) (sz : Nat) (hWT : WT L kd tys f0) (a0_ : Nat) (ma0_ : a0_ ∈ L) (ka0_ : kd a0_ = 3) (p_ : Nat) (mp_ : p_ ∈ L) (kp_ : kd p_ = 124) (m_ : Nat) (mm_ : m_ ∈ L) (km_ : kd m_ = 123) (A_ : Nat → Nat) (Q_ : RQ) (n_ : Int32) (bn_ : bd 0 10 n_) (k_ : Int32) (bk_ : bd 0 3 k_) (hJ_ : arP f0 p_ A_) (hQ_ : isQ L kd f0 m_ A_ Q_) (hw : wQ Q_ n_ k_) (x1_ : Int32) (bx1_ : bd 0 2 x1_) (x2_ : Int32) (bx2_ : bd 0 11 x2_) (x3_ : Int32) (x4_ : Int32) (x5_ : Int32) (hfx : Fs L kd f0 [(3, 0, a0_, .int n_), (3, 4, a0_, .int k_), (3, 2, a0_, .ref m_), (3, 3, a0_, .ref p_)]) : Met l yX3_addCall (.code yX3_addCall cX3_addCall 6 none :: lw_g) ({ frames := 1, cells := 0, slots := 0, locals := 26 }) (va_Pc [.ref a0_, .int x1_, .int x2_, .int x3_, .int x4_, .int x5_] (P3 (dC, dI) L tys f0 sz)) (va_Qv (fun (f : Nat → va_E) => ((rowT L kd f0 f a0_ m_ A_ (fun Q1 n1 k1 => wQ Q1 n1 k1 ∧ (n_.toInt < 10 → n1.toInt = n_.toInt + 1 ∧ Q1.1 n_.toNatClampNeg = x2_))) ∧ True)) (Q3 (dC, dI) L kd tys [(3, 0)] [103, 122, 123] f0 sz) (pA L sz)) 0 0 (pA L sz) := by
  refine Met.ofW (cc := cX3_addCall) (maxL := 6) (ret := none) (by decide) rfl ?_
  intro p e s m args below meth c s₁ B hml hv
  obtain ⟨rfl, hsz, hP, hK, hD0⟩ := hv
  have hx := B.exec
  have hb := B.bytes
  have hr := B.returns
  have hts := atoms_spec (ws := (.code yX3_addCall cX3_addCall 6 none :: lw_g)) B.pre
  have hown : s.vm.findClass RX3 = some m.cls := findClass_of_methodNamed B.named
  have hlocks := B.notSynchronized
  subst hsz
  have g : G3 (dC, dI) L kd tys s f0 [(3, 0)] [103, 122, 123] f0 s.heap [] [(3, 0, a0_, .int n_), (3, 4, a0_, .int k_), (3, 2, a0_, .ref m_), (3, 3, a0_, .ref p_)] := G3.start hP hD0 hWT hfx
  have hl := lv_entry ([.ref a0_, .int x1_, .int x2_, .int x3_, .int x4_, .int x5_]) (n := 6) (Nat.le_of_ble_eq_true rfl)
  rw [lg_entry_eq]
  generalize (lg_sl ([.ref a0_, .int x1_, .int x2_, .int x3_, .int x4_, .int x5_]) ++ List.replicate (6 - (lg_sl ([.ref a0_, .int x1_, .int x2_, .int x3_, .int x4_, .int x5_])).length) Slot.unset).toArray = ls at hl ⊢
  have hl : lv_has ls 6 [(0, .ref a0_), (1, .int x1_), (2, .int x2_), (3, .int x3_), (4, .int x4_), (5, .int x5_)] := hl
  refine W_q (fun Q hQ => ?_)
  have hU_0 : QR L kd f0 f0 a0_ m_ A_ := QR.refl
  refine lv_aload_n hx hb dX3_addCall_0 rfl (lv_at hl 0 rfl) ?_
  refine g_getk (C := RX3) (T := TX3) (N := 6) hx hb hts (mc_ inX3) hown hK g rfl 0 (by decide) rfl (hts _ (List.mem_cons_of_mem _ t_801)) (fun _ h9 => h9) 0 rfl dX3_addCall_1 ?_
  refine lv_bipush (v := 10) hx hb dX3_addCall_4 (by decide) ?_
  have kb_10 : bd 10 10 (10 : Int32) := ⟨by decide, by decide⟩
  refine lv_icmp_ge (tgt := 34) hx hb dX3_addCall_6 (by decide) (fun c_1 => ?_) (fun c_1 => ?_)
  · have fc_1 := le_f c_1
    have b_2 : bd 10 10 n_ := leR fc_1 kb_10 bn_ (by decide)
    subst hQ
    exact W.vret hx hb hr (fun t ht hW => ⟨⟨_, rfl, ⟨⟨Q_, n_, k_, hQ_, hU_0, (fx_at g (i := 0) rfl).2.2.2, (fx_at g (i := 1) rfl).2.2.2, (bd_sub b_2 (by decide)), bk_, ⟨hw, (fun h9 => absurd h9 (by have h9_0 := bk_; unfold bd at h9_0; have h9_1 := b_2; unfold bd at h9_1; have h9_2 := bx1_; unfold bd at h9_2; have h9_3 := bx2_; unfold bd at h9_3; have h8_0 := kb_10; unfold bd at h8_0; omega))⟩⟩, trivial⟩, q3_of g hK ht hW⟩, g.2.2.1.F ht⟩) g.2.2.1.2.2 dX3_addCall_34
  · have fc_1 := nle_f c_1
    have b_3 : bd 0 9 n_ := ltL fc_1 bn_ kb_10 (by decide)
    refine lv_aload_n hx hb dX3_addCall_9 rfl (lv_at hl 0 rfl) ?_
    refine lv_aload_n hx hb dX3_addCall_10 rfl (lv_at hl 0 rfl) ?_
    refine g_getk (C := RX3) (T := TX3) (N := 6) hx hb hts (mc_ inX3) hown hK g rfl 0 (by decide) rfl (hts _ (List.mem_cons_of_mem _ t_801)) (fun _ h9 => h9) 0 rfl dX3_addCall_11 ?_
    refine lv_iload_n hx hb dX3_addCall_14 rfl (lv_at hl 1 rfl) ?_
    refine lv_iload_n hx hb dX3_addCall_15 rfl (lv_at hl 2 rfl) ?_
    refine lv_iload_n hx hb dX3_addCall_16 rfl (lv_at hl 3 rfl) ?_
    refine lv_iload hx hb dX3_addCall_17 (lv_at hl 4 rfl) ?_
    refine lv_iload hx hb dX3_addCall_19 (lv_at hl 5 rfl) ?_
    have go_ := g
    refine g_callv (va_runV (As := [.int n_, .int x1_, .int x2_, .int x3_, .int x4_, .int x5_]) (rest := []) ⟨hx, hb, hml, hown, hts⟩ (r_X3_setToQ l dC dI L kd tys f0 s.heap.size g.2.2.2.1 a0_ ma0_ ka0_ p_ mp_ kp_ m_ mm_ km_ A_ Q_ n_ (bd_sub b_3 (by decide)) k_ bk_ hJ_ hQ_ n_ b_3 x1_ bx1_ x2_ (bd_sub bx2_ (by decide)) x3_ x4_ x5_ (g.fcts [0, 1, 2, 3] rfl)) (cwV 6 hts (gV_ t_1485 t_1487 t_52 t_196 t_1488) rfl rfl rfl (by decide +kernel) ⟨(Nat.le_of_ble_eq_true rfl), (Nat.le_of_ble_eq_true rfl)⟩) (pre3V g hK ma0_ ka0_ (by decide) (q := (RX3, TX3, 6)) rfl) rfl rfl hl.1 rfl (lv_room (Nat.le_of_ble_eq_true rfl)) dX3_addCall_21 ⟨(Nat.le_of_ble_eq_true rfl), (Nat.le_of_ble_eq_true rfl)⟩) g hK (by decide) (by decide) (fx' := [(3, 0, a0_, .int n_), (3, 4, a0_, .int k_), (3, 2, a0_, .ref m_), (3, 3, a0_, .ref p_)]) rfl (fun fr_4 H locs hp hMr_4 g => ?_)
    obtain ⟨hx_5, -⟩ := hp
    have hG_6 := arP.frame hMr_4 go_.2.2.2.1 mp_ kp_ (by decide) (by decide) hJ_
    obtain ⟨Q_7, n_8, k_9, hQ_10, hU_11, h0_12, h4_13, b0_14, b4_15, hP_16⟩ := hx_5
    have hU_17 := QR.tr hU_0 hU_11
    obtain rfl : n_ = n_8 := by have h9 := (fx_at g (i := 0) rfl).2.2.2.symm.trans h0_12; cases h9; rfl
    obtain rfl : k_ = k_9 := by have h9 := (fx_at g (i := 1) rfl).2.2.2.symm.trans h4_13; cases h9; rfl
    obtain ⟨rfl, -, -⟩ := hP_16
    refine lv_aload_n hx hb dX3_addCall_24 rfl (lv_at hl 0 rfl) ?_
    refine lv_dup hx hb dX3_addCall_25 rfl ?_
    refine g_getk (C := RX3) (T := TX3) (N := 6) hx hb hts (mc_ inX3) hown hK g rfl 0 (by decide) rfl (hts _ (List.mem_cons_of_mem _ t_801)) (fun _ h9 => h9) 0 rfl dX3_addCall_26 ?_
    refine lv_iconst (v := 1) hx hb dX3_addCall_29 (by decide) ?_
    have kb_1 : bd 1 1 (1 : Int32) := ⟨by decide, by decide⟩
    refine lv_iadd hx hb dX3_addCall_30 ?_
    refine lv_topi (fun y_18 ey_18 => ?_)
    have ty_18 := add_bd ey_18 b_3 kb_1 (by decide)
    have b_19 : bd 1 10 y_18 := add_rg ty_18 b_3 kb_1 (by decide)
    have go_ := g
    refine g_putX (C := RX3) (T := TX3) (N := 6) hx hb hts (mc_ inX3) tyX3 tyX3_ok nmX3 hown hK g ma0_ ka0_ (by decide) rfl 0 (by decide) (hts _ (List.mem_cons_of_mem _ t_801)) (fun _ h9 => h9) rfl rfl (okV_i (bd_sub b_19 (by decide))) rfl rfl (by decide) (Or.inr (Or.inl (by decide))) (fx' := [(3, 4, a0_, .int k_), (3, 2, a0_, .ref m_), (3, 3, a0_, .ref p_)]) rfl dX3_addCall_31 (fun f H locs hM_20 u_23 g => ?_)
    have hG_21 := arP.frame hM_20 go_.2.2.2.1 mp_ kp_ (by decide) (by decide) hG_6
    have hG_22 := isQ.frame hM_20 go_.2.2.2.1 ma0_ ka0_ (by decide) (by decide) hQ_10
    have hU_24 := QR.fld hU_17 u_23 ka0_
    subst hQ
    exact W.vret hx hb hr (fun t ht hW => ⟨⟨_, rfl, ⟨⟨(RQ.ua (RQ.um Q_ n_.toNatClampNeg x2_) n_.toNatClampNeg x3_), y_18, k_, hG_22, hU_24, (fx_at g (i := 0) rfl).2.2.2, (fx_at g (i := 1) rfl).2.2.2, (bd_sub b_19 (by decide)), bk_, ⟨wQ.call hw bn_.1 bx2_.1 (by have h9_0 := bk_; unfold bd at h9_0; have h9_1 := b_3; unfold bd at h9_1; have h9_2 := bx1_; unfold bd at h9_2; have h9_3 := bx2_; unfold bd at h9_3; have h9_4 := b_19; unfold bd at h9_4; have h8_0 := kb_1; unfold bd at h8_0; have h8_1 := kb_10; unfold bd at h8_1; omega), (fun _ => ⟨(by have h9_0 := bk_; unfold bd at h9_0; have h9_1 := b_3; unfold bd at h9_1; have h9_2 := bx1_; unfold bd at h9_2; have h9_3 := bx2_; unfold bd at h9_3; have h9_4 := b_19; unfold bd at h9_4; have h8_0 := kb_1; unfold bd at h8_0; have h8_1 := kb_10; unfold bd at h8_1; omega), (show (if n_.toNatClampNeg = n_.toNatClampNeg then x2_ else _) = x2_ from if_pos rfl)⟩)⟩⟩, trivial⟩, q3_of g hK ht hW⟩, g.2.2.1.F ht⟩) g.2.2.1.2.2 dX3_addCall_34
set_option maxHeartbeats 4000000 in
set_option maxRecDepth 100000 in
theorem r_X10_appendCall (l : Launch) (dC : Nat → ClassId) (dI : Nat → Nat → Nat) (L : List Nat) (kd : Nat → Nat) (tys : List (ClassId × FieldType)) (f0 : Nat → va_E) (sz : Nat) (hWT : WT L kd tys f0) (a0_ : Nat) (ma0_ : a0_ ∈ L) (ka0_ : kd a0_ = 10) (x1_ : Int32) (bx1_ : bd 0 2 x1_) (x2_ : Int32) (bx2_ : bd 0 11 x2_) (x3_ : Int32) (x4_ : Int32) (x5_ : Int32) (hGPa0_ : RP L kd f0 a0_) : Met l yX10_appendCall (.code yX10_appendCall cX10_appendCall 6 (some .int) :: lw_g) ({ frames := 2, cells := 0, slots := 0, locals := 51 }) (va_Pc [.ref a0_, .int x1_, .int x2_, .int x3_, .int x4_, .int x5_] (P3 (dC, dI) L tys f0 sz)) (va_Qi (fun (r : Int32) (f : Nat → va_E) => (RP L kd f a0_ ∧ bd 0 10 r ∧ Fs L kd f [(10, 8, a0_, .int 0)])) (Q3 (dC, dI) L kd tys [(3, 0), (10, 8)] [103, 122, 123, 130, 131] f0 sz) (pA L sz)) 0 0 (pA L sz) := by
  refine Met.ofW (cc := cX10_appendCall) (maxL := 6) (ret := (some .int)) (by decide) rfl ?_
  intro p e s m args below meth c s₁ B hml hv
  obtain ⟨rfl, hsz, hP, hK, hD0⟩ := hv
  have hx := B.exec
  have hb := B.bytes
  have hr := B.returns
  have hts := atoms_spec (ws := (.code yX10_appendCall cX10_appendCall 6 (some .int) :: lw_g)) B.pre
  have hown : s.vm.findClass RX10 = some m.cls := findClass_of_methodNamed B.named
  have hlocks := B.notSynchronized
  subst hsz
  have g : G3 (dC, dI) L kd tys s f0 [(3, 0), (10, 8)] [103, 122, 123, 130, 131] f0 s.heap [] [] := G3.start hP hD0 hWT Fs.nil
  have hl := lv_entry ([.ref a0_, .int x1_, .int x2_, .int x3_, .int x4_, .int x5_]) (n := 6) (Nat.le_of_ble_eq_true rfl)
  rw [lg_entry_eq]
  generalize (lg_sl ([.ref a0_, .int x1_, .int x2_, .int x3_, .int x4_, .int x5_]) ++ List.replicate (6 - (lg_sl ([.ref a0_, .int x1_, .int x2_, .int x3_, .int x4_, .int x5_])).length) Slot.unset).toArray = ls at hl ⊢
  have hl : lv_has ls 6 [(0, .ref a0_), (1, .int x1_), (2, .int x2_), (3, .int x3_), (4, .int x4_), (5, .int x5_)] := hl
  refine W_q (fun Q hQ => ?_)
  refine lv_aload_n hx hb dX10_appendCall_0 rfl (lv_at hl 0 rfl) ?_
  refine g_getr (K := 4) (C := RX10) (T := TX10) (N := 10) hx hb hts (mc_ inX10) hown hK g ma0_ ka0_ (by decide) rfl 4 (by decide) rfl (hts _ (List.mem_cons_of_mem _ t_917)) (fun _ h9 => h9) rfl dX10_appendCall_1 (fun a_1 ma_1 ka_1 g => ?_)
  refine lv_aload_n hx hb dX10_appendCall_4 rfl (lv_at hl 0 rfl) ?_
  refine g_getr (K := 3) (C := RX10) (T := TX10) (N := 10) hx hb hts (mc_ inX10) hown hK g ma0_ ka0_ (by decide) rfl 2 (by decide) rfl (hts _ (List.mem_cons_of_mem _ t_914)) (fun _ h9 => h9) rfl dX10_appendCall_5 (fun a_2 ma_2 ka_2 g => ?_)
  refine g_geti (C := RX3) (T := TX3) (N := 6) hx hb hts (mc_ inX3) hown hK g ma_2 ka_2 (by decide) rfl 0 (by decide) rfl (hts _ (List.mem_cons_of_mem _ t_802)) (fun _ h9 => h9) rfl dX10_appendCall_8 (fun x_3 bx_3 g => ?_)
  have go_ := g
  refine g_callv (va_runV (As := [.int x_3]) (rest := []) ⟨hx, hb, hml, hown, hts⟩ (r_X4_forgetCall l dC dI L kd tys f0 s.heap.size g.2.2.2.1 a_1 ma_1 ka_1 x_3) (cwV 1 hts (gV_ t_1480 t_1431 t_1432 t_197 t_1433) rfl rfl rfl (by decide +kernel) ⟨(Nat.le_of_ble_eq_true rfl), (Nat.le_of_ble_eq_true rfl)⟩) (pre3V g hK ma_1 ka_1 (by decide) (q := (RX4, TX4, 17)) rfl) rfl rfl hl.1 rfl (lv_room (Nat.le_of_ble_eq_true rfl)) dX10_appendCall_11 ⟨(Nat.le_of_ble_eq_true rfl), (Nat.le_of_ble_eq_true rfl)⟩) g hK (by decide) (by decide) (fx' := [(3, 0, a_2, .int x_3), (10, 2, a0_, .ref a_2), (10, 4, a0_, .ref a_1)]) rfl (fun fr_4 H locs hp hMr_4 g => ?_)
  have hG_5 := RP.frame hMr_4 go_.2.2.2.1 ma0_ ka0_ (by decide) (by decide) hGPa0_
  refine lv_aload_n hx hb dX10_appendCall_14 rfl (lv_at hl 0 rfl) ?_
  refine g_getk (C := RX10) (T := TX10) (N := 10) hx hb hts (mc_ inX10) hown hK g rfl 2 (by decide) rfl (hts _ (List.mem_cons_of_mem _ t_914)) (fun _ h9 => h9) 1 rfl dX10_appendCall_15 ?_
  refine lv_iload_n hx hb dX10_appendCall_18 rfl (lv_at hl 1 rfl) ?_
  refine lv_iload_n hx hb dX10_appendCall_19 rfl (lv_at hl 2 rfl) ?_
  refine lv_iload_n hx hb dX10_appendCall_20 rfl (lv_at hl 3 rfl) ?_
  refine lv_iload hx hb dX10_appendCall_21 (lv_at hl 4 rfl) ?_
  refine lv_iload hx hb dX10_appendCall_23 (lv_at hl 5 rfl) ?_
  obtain ⟨r1_6, r2_7, p1_8, p2_9, m1_10, m2_11, A1_12, A2_13, Q1_14, Q2_15, n1_16, n2_17, k1_18, k2_19, e2_20, e3_21, pk1_22, pk2_23, hap_24⟩ := hG_5
  obtain ⟨⟨hr_25, kr_26⟩, ⟨hp_27, kp_28⟩, ⟨hm_29, km_30⟩, f2_31, f3_32, f0_33, f4_34, b0_35, b4_36, hJ_37, hQ_38, hw_39⟩ := pk1_22
  obtain rfl : a_2 = r1_6 := by have h9 := (fx_at g (i := 1) rfl).2.2.2.symm.trans e2_20; cases h9; rfl
  have g := G3.add g ma_2 ka_2 (by decide) f2_31
  have g := G3.add g ma_2 ka_2 (by decide) f3_32
  obtain rfl : x_3 = n1_16 := by have h9 := (fx_at g (i := 2) rfl).2.2.2.symm.trans f0_33; cases h9; rfl
  have g := G3.add g ma_2 ka_2 (by decide) f4_34
  obtain ⟨⟨hr_40, kr_41⟩, ⟨hp_42, kp_43⟩, ⟨hm_44, km_45⟩, f2_46, f3_47, f0_48, f4_49, b0_50, b4_51, hJ_52, hQ_53, hw_54⟩ := pk2_23
  have g := G3.add g ma0_ ka0_ (by decide) e3_21
  have g := G3.add g hr_40 kr_41 (by decide) f2_46
  have g := G3.add g hr_40 kr_41 (by decide) f3_47
  have g := G3.add g hr_40 kr_41 (by decide) f0_48
  have g := G3.add g hr_40 kr_41 (by decide) f4_49
  have ho_55 := (fx_at g (i := 1) rfl).2.2.2
  have ho_56 := (fx_at g (i := 0) rfl).2.2.2
  have go_ := g
  refine g_callv (va_runV (As := [.int x1_, .int x2_, .int x3_, .int x4_, .int x5_]) (rest := []) ⟨hx, hb, hml, hown, hts⟩ (r_X3_addCallQ l dC dI L kd tys fr_4 H.size g.2.2.2.1 a_2 ma_2 ka_2 p1_8 hp_27 kp_28 m1_10 hm_29 km_30 A1_12 Q1_14 x_3 bx_3 k1_18 b4_36 hJ_37 hQ_38 hw_39 x1_ bx1_ x2_ bx2_ x3_ x4_ x5_ (g.fcts [8, 5, 7, 6] rfl)) (cwV 5 hts (gV_ t_1514 t_1515 t_1516 t_196 t_1517) rfl rfl rfl (by decide +kernel) ⟨(Nat.le_of_ble_eq_true rfl), (Nat.le_of_ble_eq_true rfl)⟩) (pre3V g hK ma_2 ka_2 (by decide) (q := (RX3, TX3, 6)) rfl) rfl rfl hl.1 rfl (lv_room (Nat.le_of_ble_eq_true rfl)) dX10_appendCall_25 ⟨(Nat.le_of_ble_eq_true rfl), (Nat.le_of_ble_eq_true rfl)⟩) g hK (by decide) (by decide) (fx' := [(3, 4, r2_7, .int k2_19), (3, 3, r2_7, .ref p2_9), (3, 2, r2_7, .ref m2_11), (10, 3, a0_, .ref r2_7), (3, 4, a_2, .int k1_18), (3, 3, a_2, .ref p1_8), (3, 2, a_2, .ref m1_10), (10, 2, a0_, .ref a_2), (10, 4, a0_, .ref a_1)]) rfl (fun fr_57 H locs hp hMr_57 g => ?_)
  obtain ⟨hx_58, -⟩ := hp
  have hG_59 := arP.frame hMr_57 go_.2.2.2.1 hp_27 kp_28 (by decide) (by decide) hJ_37
  have hG_60 := arP.frame hMr_57 go_.2.2.2.1 hp_42 kp_43 (by decide) (by decide) hJ_52
  obtain ⟨Q_61, n_62, k_63, hQ_64, hU_65, h0_66, h4_67, b0_68, b4_69, hP_70⟩ := hx_58
  have g := G3.add g ma_2 ka_2 (by decide) h0_66
  obtain rfl : k1_18 = k_63 := by have h9 := (fx_at g (i := 5) rfl).2.2.2.symm.trans h4_67; cases h9; rfl
  have hQ_71 := QR.oth hU_65 hQ_53 hap_24.2.1 hap_24.2.2
  have g := G3.add g hr_40 kr_41 (by decide) (((hU_65 r2_7 hr_40).1 kr_41 (fun z => hap_24.1 z.symm) 0).trans ho_55)
  have hP_73 : RP L kd fr_57 a0_ := ⟨a_2, _, _, _, _, _, _, _, _, _, _, _, _, _, (fx_at g (i := 9) rfl).2.2.2, (fx_at g (i := 5) rfl).2.2.2, ⟨⟨ma_2, ka_2⟩, ⟨hp_27, kp_28⟩, ⟨hm_29, km_30⟩, (fx_at g (i := 8) rfl).2.2.2, (fx_at g (i := 7) rfl).2.2.2, (fx_at g (i := 1) rfl).2.2.2, (fx_at g (i := 6) rfl).2.2.2, b0_68, b4_36, hG_59, hQ_64, hP_70.1⟩, ⟨⟨hr_40, kr_41⟩, ⟨hp_42, kp_43⟩, ⟨hm_44, km_45⟩, (fx_at g (i := 4) rfl).2.2.2, (fx_at g (i := 3) rfl).2.2.2, (fx_at g (i := 0) rfl).2.2.2, (fx_at g (i := 2) rfl).2.2.2, b0_50, b4_51, hG_60, hQ_71, hw_54⟩, hap_24⟩
  refine lv_aload_n hx hb dX10_appendCall_28 rfl (lv_at hl 0 rfl) ?_
  refine lv_iconst (v := 0) hx hb dX10_appendCall_29 (by decide) ?_
  have kb_0 : bd 0 0 (0 : Int32) := ⟨by decide, by decide⟩
  have go_ := g
  refine g_put (C := RX10) (T := TX10) (N := 10) hx hb hts (mc_ inX10) tyX10 tyX10_ok nmX10 hown hK g ma0_ ka0_ (by decide) rfl 8 (by decide) (hts _ (List.mem_cons_of_mem _ t_924)) (fun _ h9 => h9) rfl rfl (okV_i (bd_sub kb_0 (by decide))) rfl rfl (by decide) (Or.inr (Or.inl (by decide))) (fx' := [(3, 0, r2_7, .int n2_17), (3, 0, a_2, .int n_62), (3, 4, r2_7, .int k2_19), (3, 3, r2_7, .ref p2_9), (3, 2, r2_7, .ref m2_11), (10, 3, a0_, .ref r2_7), (3, 4, a_2, .int k1_18), (3, 3, a_2, .ref p1_8), (3, 2, a_2, .ref m1_10), (10, 2, a0_, .ref a_2), (10, 4, a0_, .ref a_1)]) rfl dX10_appendCall_30 (fun f H locs hM_74 g => ?_)
  have hG_75 := RP.frame hM_74 go_.2.2.2.1 ma0_ ka0_ (by decide) (by decide) hP_73
  refine lv_aload_n hx hb dX10_appendCall_33 rfl (lv_at hl 0 rfl) ?_
  refine g_getk (C := RX10) (T := TX10) (N := 10) hx hb hts (mc_ inX10) hown hK g rfl 2 (by decide) rfl (hts _ (List.mem_cons_of_mem _ t_914)) (fun _ h9 => h9) 10 rfl dX10_appendCall_34 ?_
  refine g_getk (C := RX3) (T := TX3) (N := 6) hx hb hts (mc_ inX3) hown hK g rfl 0 (by decide) rfl (hts _ (List.mem_cons_of_mem _ t_802)) (fun _ h9 => h9) 2 rfl dX10_appendCall_37 ?_
  subst hQ
  exact W.iret (v := n_62) hx hb hr (fun t ht hW => ⟨⟨_, _, rfl, ⟨hG_75, b0_68, (g.fcts [0] rfl)⟩, q3_of g hK ht hW⟩, g.2.2.1.F ht⟩) g.2.2.1.2.2 dX10_appendCall_40
set_option maxHeartbeats 4000000 in
set_option maxRecDepth 100000 in
theorem r_X11_call (l : Launch) (dC : Nat → ClassId) (dI : Nat → Nat → Nat) (L : List Nat) (kd : Nat → Nat) (tys : List (ClassId × FieldType)) (f0 : Nat → va_E) (sz : Nat) (hWT : WT L kd tys f0) (a0_ : Nat) (ma0_ : a0_ ∈ L) (ka0_ : kd a0_ = 11) (x1_ : Int32) (x2_ : Int32) (x3_ : Int32) (x4_ : Int32) (x5_ : Int32) (q0_ : Nat) (mq0_ : q0_ ∈ L) (kq0_ : kd q0_ = 10) (hGPq0_ : RP L kd f0 q0_) (hfx : Fs L kd f0 [(11, 3, a0_, .ref q0_)]) : Met l yX11_call (.code yX11_call cX11_call 6 (some .int) :: lw_g) ({ frames := 3, cells := 0, slots := 0, locals := 76 }) (va_Pc [.ref a0_, .int x1_, .int x2_, .int x3_, .int x4_, .int x5_] (P3 (dC, dI) L tys f0 sz)) (va_Qi (fun (r : Int32) (f : Nat → va_E) => (RP L kd f q0_ ∧ bd (-3) 10 r ∧ True)) (Q3 (dC, dI) L kd tys [(3, 0), (10, 8)] [103, 122, 123, 130, 131] f0 sz) (pA L sz)) 0 0 (pA L sz) := by
  refine Met.ofW (cc := cX11_call) (maxL := 6) (ret := (some .int)) (by decide) rfl ?_
  intro p e s m args below meth c s₁ B hml hv
  obtain ⟨rfl, hsz, hP, hK, hD0⟩ := hv
  have hx := B.exec
  have hb := B.bytes
  have hr := B.returns
  have hts := atoms_spec (ws := (.code yX11_call cX11_call 6 (some .int) :: lw_g)) B.pre
  have hown : s.vm.findClass RX11 = some m.cls := findClass_of_methodNamed B.named
  have hlocks := B.notSynchronized
  subst hsz
  have g : G3 (dC, dI) L kd tys s f0 [(3, 0), (10, 8)] [103, 122, 123, 130, 131] f0 s.heap [] [(11, 3, a0_, .ref q0_)] := G3.start hP hD0 hWT hfx
  have hl := lv_entry ([.ref a0_, .int x1_, .int x2_, .int x3_, .int x4_, .int x5_]) (n := 6) (Nat.le_of_ble_eq_true rfl)
  rw [lg_entry_eq]
  generalize (lg_sl ([.ref a0_, .int x1_, .int x2_, .int x3_, .int x4_, .int x5_]) ++ List.replicate (6 - (lg_sl ([.ref a0_, .int x1_, .int x2_, .int x3_, .int x4_, .int x5_])).length) Slot.unset).toArray = ls at hl ⊢
  have hl : lv_has ls 6 [(0, .ref a0_), (1, .int x1_), (2, .int x2_), (3, .int x3_), (4, .int x4_), (5, .int x5_)] := hl
  refine W_q (fun Q hQ => ?_)
  refine lv_aload_n hx hb dX11_call_0 rfl (lv_at hl 0 rfl) ?_
  refine g_getk (C := RX11) (T := TX11) (N := 8) hx hb hts (mc_ inX11) hown hK g rfl 3 (by decide) rfl (hts _ (List.mem_cons_of_mem _ t_951)) (fun _ h9 => h9) 0 rfl dX11_call_1 ?_
  refine g_getr (K := 3) (C := RX10) (T := TX10) (N := 10) hx hb hts (mc_ inX10) hown hK g mq0_ kq0_ (by decide) rfl 2 (by decide) rfl (hts _ (List.mem_cons_of_mem _ t_915)) (fun _ h9 => h9) rfl dX11_call_4 (fun a_1 ma_1 ka_1 g => ?_)
  refine lv_aload_n hx hb dX11_call_7 rfl (lv_at hl 0 rfl) ?_
  refine g_getr (K := 7) (C := RX11) (T := TX11) (N := 8) hx hb hts (mc_ inX11) hown hK g ma0_ ka0_ (by decide) rfl 4 (by decide) rfl (hts _ (List.mem_cons_of_mem _ t_952)) (fun _ h9 => h9) rfl dX11_call_8 (fun a_2 ma_2 ka_2 g => ?_)
  refine lv_iload_n hx hb dX11_call_11 rfl (lv_at hl 1 rfl) ?_
  refine lv_iload_n hx hb dX11_call_12 rfl (lv_at hl 2 rfl) ?_
  refine lv_iload_n hx hb dX11_call_13 rfl (lv_at hl 3 rfl) ?_
  refine lv_iload hx hb dX11_call_14 (lv_at hl 4 rfl) ?_
  refine lv_iload hx hb dX11_call_16 (lv_at hl 5 rfl) ?_
  have go_ := g
  refine g_calli (va_runV (As := [.ref a_2, .int x1_, .int x2_, .int x3_, .int x4_, .int x5_]) (rest := []) ⟨hx, hb, hml, hown, hts⟩ (r_X3_mayTake l dC dI L kd tys f0 s.heap.size g.2.2.2.1 a_1 ma_1 ka_1 a_2 ma_2 ka_2 x1_ x2_ x3_ x4_ x5_) (cwV 6 hts (gV_ t_1493 t_1494 t_1495 t_196 t_1496) rfl rfl rfl (by decide +kernel) ⟨(Nat.le_of_ble_eq_true rfl), (Nat.le_of_ble_eq_true rfl)⟩) (pre3V g hK ma_1 ka_1 (by decide) (q := (RX3, TX3, 6)) rfl) rfl rfl hl.1 rfl (lv_room (Nat.le_of_ble_eq_true rfl)) dX11_call_18 ⟨(Nat.le_of_ble_eq_true rfl), (Nat.le_of_ble_eq_true rfl)⟩) g hK (by decide) (by decide) (fx' := [(11, 4, a0_, .ref a_2), (10, 2, q0_, .ref a_1), (11, 3, a0_, .ref q0_)]) rfl (fun r_3 fr_3 H locs hp hMr_3 g => ?_)
  rcases hp with ⟨h_4, -⟩ | ⟨h_5, h_6, h_7, x_8, h_9, x_10, h_11, hF_12⟩
  · have hG_13 := RP.frame hMr_3 go_.2.2.2.1 mq0_ kq0_ (by decide) (by decide) hGPq0_
    obtain rfl : r_3 = 0 := h_4
    refine lv_if_ne (tgt := 27) hx hb dX11_call_21 (by decide) (fun c_ => absurd c_ (by decide)) (fun c_ => ?_)
    refine lv_bipush (v := (-2)) hx hb dX11_call_24 (by decide) ?_
    have kb_m2 : bd (-2) (-2) ((-2) : Int32) := ⟨by decide, by decide⟩
    subst hQ
    exact W.iret (v := (-2)) hx hb hr (fun t ht hW => ⟨⟨_, _, rfl, ⟨hG_13, (bd_sub kb_m2 (by decide)), trivial⟩, q3_of g hK ht hW⟩, g.2.2.1.F ht⟩) g.2.2.1.2.2 dX11_call_26
  · have hG_14 := RP.frame hMr_3 go_.2.2.2.1 mq0_ kq0_ (by decide) (by decide) hGPq0_
    obtain rfl : r_3 = 1 := h_5
    have b_15 : bd 0 2 x1_ := eqX rfl (bdT x1_) h_6 (by decide)
    have b_16 : bd 0 11 x2_ := eqX rfl (bdT x2_) h_7 (by decide)
    have g := g.more hF_12
    refine lv_if_ne (tgt := 27) hx hb dX11_call_21 (by decide) (fun c_ => ?_) (fun c_ => absurd c_ (by decide))
    refine lv_aload_n hx hb dX11_call_27 rfl (lv_at hl 0 rfl) ?_
    refine g_getk (C := RX11) (T := TX11) (N := 8) hx hb hts (mc_ inX11) hown hK g rfl 3 (by decide) rfl (hts _ (List.mem_cons_of_mem _ t_951)) (fun _ h9 => h9) 4 rfl dX11_call_28 ?_
    refine g_getk (C := RX10) (T := TX10) (N := 10) hx hb hts (mc_ inX10) hown hK g rfl 2 (by decide) rfl (hts _ (List.mem_cons_of_mem _ t_915)) (fun _ h9 => h9) 3 rfl dX11_call_31 ?_
    have go_ := g
    refine g_calli (va_runV (As := []) (rest := []) ⟨hx, hb, hml, hown, hts⟩ (r_X3_roomForCall l dC dI L kd tys fr_3 H.size g.2.2.2.1 a_1 ma_1 ka_1) (cwV 0 hts (gV_ t_1506 t_1507 t_1508 t_196 t_1509) rfl rfl rfl (by decide +kernel) ⟨(Nat.le_of_ble_eq_true rfl), (Nat.le_of_ble_eq_true rfl)⟩) (pre3V g hK ma_1 ka_1 (by decide) (q := (RX3, TX3, 6)) rfl) rfl rfl hl.1 rfl (lv_room (Nat.le_of_ble_eq_true rfl)) dX11_call_34 ⟨(Nat.le_of_ble_eq_true rfl), (Nat.le_of_ble_eq_true rfl)⟩) g hK (by decide) (by decide) (fx' := [(7, 1, a_2, .int x_8), (3, 4, a_1, .int x_10), (11, 4, a0_, .ref a_2), (10, 2, q0_, .ref a_1), (11, 3, a0_, .ref q0_)]) rfl (fun r_17 fr_17 H locs hp hMr_17 g => ?_)
    rcases hp with ⟨h_18, x_19, h_20, hF_21⟩ | ⟨h_22, x_23, h_24, hF_25⟩
    · have hG_26 := RP.frame hMr_17 go_.2.2.2.1 mq0_ kq0_ (by decide) (by decide) hG_14
      obtain rfl : r_17 = 0 := h_18
      have g := g.more hF_21
      refine lv_if_ne (tgt := 43) hx hb dX11_call_37 (by decide) (fun c_ => absurd c_ (by decide)) (fun c_ => ?_)
      refine lv_bipush (v := (-3)) hx hb dX11_call_40 (by decide) ?_
      have kb_m3 : bd (-3) (-3) ((-3) : Int32) := ⟨by decide, by decide⟩
      subst hQ
      exact W.iret (v := (-3)) hx hb hr (fun t ht hW => ⟨⟨_, _, rfl, ⟨hG_26, (bd_sub kb_m3 (by decide)), trivial⟩, q3_of g hK ht hW⟩, g.2.2.1.F ht⟩) g.2.2.1.2.2 dX11_call_42
    · have hG_27 := RP.frame hMr_17 go_.2.2.2.1 mq0_ kq0_ (by decide) (by decide) hG_14
      obtain rfl : r_17 = 1 := h_22
      have g := g.more hF_25
      refine lv_if_ne (tgt := 43) hx hb dX11_call_37 (by decide) (fun c_ => ?_) (fun c_ => absurd c_ (by decide))
      refine lv_aload_n hx hb dX11_call_43 rfl (lv_at hl 0 rfl) ?_
      refine g_getk (C := RX11) (T := TX11) (N := 8) hx hb hts (mc_ inX11) hown hK g rfl 3 (by decide) rfl (hts _ (List.mem_cons_of_mem _ t_951)) (fun _ h9 => h9) 5 rfl dX11_call_44 ?_
      refine lv_iload_n hx hb dX11_call_47 rfl (lv_at hl 1 rfl) ?_
      refine lv_iload_n hx hb dX11_call_48 rfl (lv_at hl 2 rfl) ?_
      refine lv_iload_n hx hb dX11_call_49 rfl (lv_at hl 3 rfl) ?_
      refine lv_iload hx hb dX11_call_50 (lv_at hl 4 rfl) ?_
      refine lv_iload hx hb dX11_call_52 (lv_at hl 5 rfl) ?_
      have go_ := g
      refine g_calli (va_runV (As := [.int x1_, .int x2_, .int x3_, .int x4_, .int x5_]) (rest := []) ⟨hx, hb, hml, hown, hts⟩ (r_X10_appendCall l dC dI L kd tys fr_17 H.size g.2.2.2.1 q0_ mq0_ kq0_ x1_ b_15 x2_ b_16 x3_ x4_ x5_ hG_27) (cwV 5 hts (gV_ t_1510 t_1511 t_1512 t_194 t_1513) rfl rfl rfl (by decide +kernel) ⟨(Nat.le_of_ble_eq_true rfl), (Nat.le_of_ble_eq_true rfl)⟩) (pre3V g hK mq0_ kq0_ (by decide) (q := (RX10, TX10, 10)) rfl) rfl rfl hl.1 rfl (lv_room (Nat.le_of_ble_eq_true rfl)) dX11_call_54 ⟨(Nat.le_of_ble_eq_true rfl), (Nat.le_of_ble_eq_true rfl)⟩) g hK (by decide) (by decide) (fx' := [(7, 1, a_2, .int x_8), (3, 4, a_1, .int x_10), (11, 4, a0_, .ref a_2), (10, 2, q0_, .ref a_1), (11, 3, a0_, .ref q0_)]) rfl (fun r_28 fr_28 H locs hp hMr_28 g => ?_)
      obtain ⟨hG_29, h_30, hF_31⟩ := hp
      have g := g.more hF_31
      subst hQ
      exact W.iret (v := r_28) hx hb hr (fun t ht hW => ⟨⟨_, _, rfl, ⟨hG_29, (bd_sub h_30 (by decide)), trivial⟩, q3_of g hK ht hW⟩, g.2.2.1.F ht⟩) g.2.2.1.2.2 dX11_call_57
set_option maxHeartbeats 4000000 in
set_option maxRecDepth 100000 in
theorem r_X4_wipe (l : Launch) (dC : Nat → ClassId) (dI : Nat → Nat → Nat) (L : List Nat) (kd : Nat → Nat) (tys : List (ClassId × FieldType)) (f0 : Nat → va_E) (sz : Nat) (hWT : WT L kd tys f0) (a0_ : Nat) (ma0_ : a0_ ∈ L) (ka0_ : kd a0_ = 4) : Met l yX4_wipe (.code yX4_wipe cX4_wipe 2 none :: lw_g) ({ frames := 1, cells := 0, slots := 0, locals := 21 }) (va_Pc [.ref a0_] (P3 (dC, dI) L tys f0 sz)) (va_Qv (fun (f : Nat → va_E) => (Fs L kd f [(4, 14, a0_, .int 0), (4, 6, a0_, .int 0), (4, 4, a0_, .int (-1)), (4, 3, a0_, .int (-1)), (4, 2, a0_, .int (-1)), (4, 1, a0_, .int (-1)), (4, 0, a0_, .int 0)])) (Q3 (dC, dI) L kd tys [(4, 0), (4, 1), (4, 2), (4, 3), (4, 4), (4, 5), (4, 6), (4, 14)] [130, 131] f0 sz) (pA L sz)) 0 0 (pA L sz) := by
  refine Met.ofW (cc := cX4_wipe) (maxL := 2) (ret := none) (by decide) rfl ?_
  intro p e s m args below meth c s₁ B hml hv
  obtain ⟨rfl, hsz, hP, hK, hD0⟩ := hv
  have hx := B.exec
  have hb := B.bytes
  have hr := B.returns
  have hts := atoms_spec (ws := (.code yX4_wipe cX4_wipe 2 none :: lw_g)) B.pre
  have hown : s.vm.findClass RX4 = some m.cls := findClass_of_methodNamed B.named
  have hlocks := B.notSynchronized
  subst hsz
  have g : G3 (dC, dI) L kd tys s f0 [(4, 0), (4, 1), (4, 2), (4, 3), (4, 4), (4, 5), (4, 6), (4, 14)] [130, 131] f0 s.heap [] [] := G3.start hP hD0 hWT Fs.nil
  have hl := lv_entry ([.ref a0_]) (n := 2) (Nat.le_of_ble_eq_true rfl)
  rw [lg_entry_eq]
  generalize (lg_sl ([.ref a0_]) ++ List.replicate (2 - (lg_sl ([.ref a0_])).length) Slot.unset).toArray = ls at hl ⊢
  have hl : lv_has ls 2 [(0, .ref a0_)] := hl
  refine W_q (fun Q hQ => ?_)
  refine lv_aload_n hx hb dX4_wipe_0 rfl (lv_at hl 0 rfl) ?_
  refine lv_iconst (v := 0) hx hb dX4_wipe_1 (by decide) ?_
  have kb_0 : bd 0 0 (0 : Int32) := ⟨by decide, by decide⟩
  refine g_put (C := RX4) (T := TX4) (N := 17) hx hb hts (mc_ inX4) tyX4 tyX4_ok nmX4 hown hK g ma0_ ka0_ (by decide) rfl 0 (by decide) (hts _ (List.mem_cons_of_mem _ t_836)) (fun _ h9 => h9) rfl rfl (okV_i (bd_sub kb_0 (by decide))) rfl rfl (by decide) (Or.inr (Or.inl (by decide))) (fx' := []) rfl dX4_wipe_2 (fun f H locs hM_1 g => ?_)
  refine lv_aload_n hx hb dX4_wipe_5 rfl (lv_at hl 0 rfl) ?_
  refine lv_iconst (v := (-1)) hx hb dX4_wipe_6 (by decide) ?_
  have kb_m1 : bd (-1) (-1) ((-1) : Int32) := ⟨by decide, by decide⟩
  refine g_put (C := RX4) (T := TX4) (N := 17) hx hb hts (mc_ inX4) tyX4 tyX4_ok nmX4 hown hK g ma0_ ka0_ (by decide) rfl 1 (by decide) (hts _ (List.mem_cons_of_mem _ t_839)) (fun _ h9 => h9) rfl rfl (okV_i (bd_sub kb_m1 (by decide))) rfl rfl (by decide) (Or.inr (Or.inl (by decide))) (fx' := [(4, 0, a0_, .int 0)]) rfl dX4_wipe_7 (fun f H locs hM_2 g => ?_)
  refine lv_aload_n hx hb dX4_wipe_10 rfl (lv_at hl 0 rfl) ?_
  refine lv_iconst (v := (-1)) hx hb dX4_wipe_11 (by decide) ?_
  refine g_put (C := RX4) (T := TX4) (N := 17) hx hb hts (mc_ inX4) tyX4 tyX4_ok nmX4 hown hK g ma0_ ka0_ (by decide) rfl 2 (by decide) (hts _ (List.mem_cons_of_mem _ t_841)) (fun _ h9 => h9) rfl rfl (okV_i (bd_sub kb_m1 (by decide))) rfl rfl (by decide) (Or.inr (Or.inl (by decide))) (fx' := [(4, 1, a0_, .int (-1)), (4, 0, a0_, .int 0)]) rfl dX4_wipe_12 (fun f H locs hM_3 g => ?_)
  refine lv_aload_n hx hb dX4_wipe_15 rfl (lv_at hl 0 rfl) ?_
  refine lv_iconst (v := (-1)) hx hb dX4_wipe_16 (by decide) ?_
  refine g_put (C := RX4) (T := TX4) (N := 17) hx hb hts (mc_ inX4) tyX4 tyX4_ok nmX4 hown hK g ma0_ ka0_ (by decide) rfl 3 (by decide) (hts _ (List.mem_cons_of_mem _ t_843)) (fun _ h9 => h9) rfl rfl (okV_i (bd_sub kb_m1 (by decide))) rfl rfl (by decide) (Or.inr (Or.inl (by decide))) (fx' := [(4, 2, a0_, .int (-1)), (4, 1, a0_, .int (-1)), (4, 0, a0_, .int 0)]) rfl dX4_wipe_17 (fun f H locs hM_4 g => ?_)
  refine lv_aload_n hx hb dX4_wipe_20 rfl (lv_at hl 0 rfl) ?_
  refine lv_iconst (v := (-1)) hx hb dX4_wipe_21 (by decide) ?_
  refine g_put (C := RX4) (T := TX4) (N := 17) hx hb hts (mc_ inX4) tyX4 tyX4_ok nmX4 hown hK g ma0_ ka0_ (by decide) rfl 4 (by decide) (hts _ (List.mem_cons_of_mem _ t_845)) (fun _ h9 => h9) rfl rfl (okV_i (bd_sub kb_m1 (by decide))) rfl rfl (by decide) (Or.inr (Or.inl (by decide))) (fx' := [(4, 3, a0_, .int (-1)), (4, 2, a0_, .int (-1)), (4, 1, a0_, .int (-1)), (4, 0, a0_, .int 0)]) rfl dX4_wipe_22 (fun f H locs hM_5 g => ?_)
  refine lv_aload_n hx hb dX4_wipe_25 rfl (lv_at hl 0 rfl) ?_
  refine lv_lconst (v := 0) hx hb dX4_wipe_26 (by decide) ?_
  refine g_put (C := RX4) (T := TX4) (N := 17) hx hb hts (mc_ inX4) tyX4 tyX4_ok nmX4 hown hK g ma0_ ka0_ (by decide) rfl 5 (by decide) (hts _ (List.mem_cons_of_mem _ t_847)) (fun _ h9 => h9) rfl rfl okV_l rfl rfl (by decide) (Or.inr (Or.inl (by decide))) (fx' := [(4, 4, a0_, .int (-1)), (4, 3, a0_, .int (-1)), (4, 2, a0_, .int (-1)), (4, 1, a0_, .int (-1)), (4, 0, a0_, .int 0)]) rfl dX4_wipe_27 (fun f H locs hM_6 g => ?_)
  refine lv_aload_n hx hb dX4_wipe_30 rfl (lv_at hl 0 rfl) ?_
  refine lv_iconst (v := 0) hx hb dX4_wipe_31 (by decide) ?_
  refine g_put (C := RX4) (T := TX4) (N := 17) hx hb hts (mc_ inX4) tyX4 tyX4_ok nmX4 hown hK g ma0_ ka0_ (by decide) rfl 6 (by decide) (hts _ (List.mem_cons_of_mem _ t_850)) (fun _ h9 => h9) rfl rfl (okV_i (bd_sub kb_0 (by decide))) rfl rfl (by decide) (Or.inr (Or.inl (by decide))) (fx' := [(4, 5, a0_, .long 0), (4, 4, a0_, .int (-1)), (4, 3, a0_, .int (-1)), (4, 2, a0_, .int (-1)), (4, 1, a0_, .int (-1)), (4, 0, a0_, .int 0)]) rfl dX4_wipe_32 (fun f H locs hM_7 g => ?_)
  refine lv_aload_n hx hb dX4_wipe_35 rfl (lv_at hl 0 rfl) ?_
  refine lv_iconst (v := 0) hx hb dX4_wipe_36 (by decide) ?_
  refine g_put (C := RX4) (T := TX4) (N := 17) hx hb hts (mc_ inX4) tyX4 tyX4_ok nmX4 hown hK g ma0_ ka0_ (by decide) rfl 14 (by decide) (hts _ (List.mem_cons_of_mem _ t_873)) (fun _ h9 => h9) rfl rfl (okV_i (bd_sub kb_0 (by decide))) rfl rfl (by decide) (Or.inr (Or.inl (by decide))) (fx' := [(4, 6, a0_, .int 0), (4, 5, a0_, .long 0), (4, 4, a0_, .int (-1)), (4, 3, a0_, .int (-1)), (4, 2, a0_, .int (-1)), (4, 1, a0_, .int (-1)), (4, 0, a0_, .int 0)]) rfl dX4_wipe_37 (fun f H locs hM_8 g => ?_)
  refine lv_iconst (v := 0) hx hb dX4_wipe_40 (by decide) ?_
  refine lv_istore_n (lv' := [(1, .int 0), (0, .ref a0_)]) hx hb dX4_wipe_41 rfl hl (by decide) rfl (fun ls hl => ?_)
  have loop_9 : ∀ (n : Nat) (v42_1 : Int32), bd 0 10 v42_1 → (10 - v42_1.toInt < (n : Int)) → ∀ (f : Nat → va_E) (H : Heap) (locs : List Loc) (ls : Array Slot), G3 (dC, dI) L kd tys s f0 [(4, 0), (4, 1), (4, 2), (4, 3), (4, 4), (4, 5), (4, 6), (4, 14)] [130, 131] f H locs [(4, 14, a0_, .int 0), (4, 6, a0_, .int 0), (4, 5, a0_, .long 0), (4, 4, a0_, .int (-1)), (4, 3, a0_, .int (-1)), (4, 2, a0_, .int (-1)), (4, 1, a0_, .int (-1)), (4, 0, a0_, .int 0)] → lv_has ls 2 [(1, .int v42_1), (0, .ref a0_)] → W p l e ({ frames := 1, cells := 0, slots := 0, locals := 21 } : Room) s m [.ref a0_].toArray below meth c H locs 0 0 Q (F0 m 42 ls []) := by
    intro n42
    induction n42 with
    | zero =>
      intro v42_1 bv42_1 hm42 f H locs ls g  hl
      exact absurd hm42 (by have h9_v42_1 := bv42_1; unfold bd at h9_v42_1; omega)
    | succ n42 ih42 =>
      intro v42_1 bv42_1 hm42 f H locs ls g  hl
      refine lv_iload_n hx hb dX4_wipe_42 rfl (lv_at hl 0 rfl) ?_
      refine lv_bipush (v := 10) hx hb dX4_wipe_43 (by decide) ?_
      have kb_10 : bd 10 10 (10 : Int32) := ⟨by decide, by decide⟩
      refine lv_icmp_ge (tgt := 59) hx hb dX4_wipe_45 (by decide) (fun c_10 => ?_) (fun c_10 => ?_)
      · have fc_10 := le_f c_10
        have b_11 : bd 10 10 v42_1 := leR fc_10 kb_10 bv42_1 (by decide)
        subst hQ
        exact W.vret hx hb hr (fun t ht hW => ⟨⟨_, rfl, (g.fcts [0, 1, 3, 4, 5, 6, 7] rfl), q3_of g hK ht hW⟩, g.2.2.1.F ht⟩) g.2.2.1.2.2 dX4_wipe_59
      · have fc_10 := nle_f c_10
        have b_12 : bd 0 9 v42_1 := ltL fc_10 bv42_1 kb_10 (by decide)
        refine lv_aload_n hx hb dX4_wipe_48 rfl (lv_at hl 1 rfl) ?_
        refine lv_iload_n hx hb dX4_wipe_49 rfl (lv_at hl 0 rfl) ?_
        refine g_callv (va_runV (As := [.int v42_1]) (rest := []) ⟨hx, hb, hml, hown, hts⟩ (r_X4_forgetCall l dC dI L kd tys f H.size g.2.2.2.1 a0_ ma0_ ka0_ v42_1) (cwV 1 hts (gV_ t_1430 t_1431 t_1432 t_197 t_1433) rfl rfl rfl (by decide +kernel) ⟨(Nat.le_of_ble_eq_true rfl), (Nat.le_of_ble_eq_true rfl)⟩) (pre3V g hK ma0_ ka0_ (by decide) (q := (RX4, TX4, 17)) rfl) rfl rfl hl.1 rfl (lv_room (Nat.le_of_ble_eq_true rfl)) dX4_wipe_50 ⟨(Nat.le_of_ble_eq_true rfl), (Nat.le_of_ble_eq_true rfl)⟩) g hK (by decide) (by decide) (fx' := [(4, 14, a0_, .int 0), (4, 6, a0_, .int 0), (4, 5, a0_, .long 0), (4, 4, a0_, .int (-1)), (4, 3, a0_, .int (-1)), (4, 2, a0_, .int (-1)), (4, 1, a0_, .int (-1)), (4, 0, a0_, .int 0)]) rfl (fun fr_13 H locs hp hMr_13 g => ?_)
        have kb_1 : bd 1 1 (1 : Int32) := ⟨by decide, by decide⟩
        obtain ⟨y_14, ey_14⟩ : ∃ z : Int32, z = v42_1 + 1 := ⟨_, rfl⟩
        refine lv_iinc (v := y_14) (lv' := [(1, .int y_14), (0, .ref a0_)]) hx hb dX4_wipe_53 hl (k := 0) rfl (by rw [ey_14]; rfl) (by decide) rfl (fun ls hl => ?_)
        have ty_14 := add_bd ey_14 b_12 kb_1 (by decide)
        have b_15 : bd 1 10 y_14 := add_rg ty_14 b_12 kb_1 (by decide)
        refine lv_goto (tgt := 42) hx hb dX4_wipe_56 (by decide) ?_
        have hl9 := lv_sub hl [0, 1] (by rfl : lv_pick [(1, .int y_14), (0, .ref a0_)] [0, 1] = [(1, .int y_14), (0, .ref a0_)])
        have g9 := g.sub (fx' := [(4, 14, a0_, .int 0), (4, 6, a0_, .int 0), (4, 5, a0_, .long 0), (4, 4, a0_, .int (-1)), (4, 3, a0_, .int (-1)), (4, 2, a0_, .int (-1)), (4, 1, a0_, .int (-1)), (4, 0, a0_, .int 0)]) [0, 1, 2, 3, 4, 5, 6, 7] rfl
        exact ih42  y_14 (bd_sub b_15 (by decide)) (by have h9_0 := b_15; unfold bd at h9_0; have h9_1 := bv42_1; unfold bd at h9_1; have h9_2 := kb_0; unfold bd at h9_2; have h9_3 := kb_1; unfold bd at h9_3; have h9_4 := kb_10; unfold bd at h9_4; have h9_5 := kb_m1; unfold bd at h9_5; omega) _ _ _ _ g9  hl9
  have hl9 := lv_sub hl [0, 1] (by rfl : lv_pick [(1, .int 0), (0, .ref a0_)] [0, 1] = [(1, .int 0), (0, .ref a0_)])
  have g9 := g.sub (fx' := [(4, 14, a0_, .int 0), (4, 6, a0_, .int 0), (4, 5, a0_, .long 0), (4, 4, a0_, .int (-1)), (4, 3, a0_, .int (-1)), (4, 2, a0_, .int (-1)), (4, 1, a0_, .int (-1)), (4, 0, a0_, .int 0)]) [0, 1, 2, 3, 4, 5, 6, 7] rfl
  exact loop_9 (23) 0 (bd_sub kb_0 (by decide)) (by have h9_0 := kb_0; unfold bd at h9_0; have h9_1 := kb_m1; unfold bd at h9_1; omega) _ _ _ _ g9  hl9
set_option maxHeartbeats 4000000 in
set_option maxRecDepth 100000 in
theorem r_X9_fillNew (l : Launch) (dC : Nat → ClassId) (dI : Nat → Nat → Nat) (L : List Nat) (kd : Nat → Nat) (tys : List (ClassId × FieldType)) (f0 : Nat → va_E) (sz : Nat) (hWT : WT L kd tys f0) (a0_ : Nat) (ma0_ : a0_ ∈ L) (ka0_ : kd a0_ = 9) (a1_ : Nat) (ma1_ : a1_ ∈ L) (ka1_ : kd a1_ = 101) : Met l yX9_fillNew (.code yX9_fillNew cX9_fillNew 5 none :: lw_g) ({ frames := 1, cells := 0, slots := 0, locals := 14 }) (va_Pc [.ref a0_, .ref a1_] (P3 (dC, dI) L tys f0 sz)) (va_Qv (fun (f : Nat → va_E) => (True)) (Q3 (dC, dI) L kd tys [] [101] f0 sz) (pA L sz)) 0 0 (pA L sz) := by
  refine Met.ofW (cc := cX9_fillNew) (maxL := 5) (ret := none) (by decide) rfl ?_
  intro p e s m args below meth c s₁ B hml hv
  obtain ⟨rfl, hsz, hP, hK, hD0⟩ := hv
  have hx := B.exec
  have hb := B.bytes
  have hr := B.returns
  have hts := atoms_spec (ws := (.code yX9_fillNew cX9_fillNew 5 none :: lw_g)) B.pre
  have hown : s.vm.findClass RX9 = some m.cls := findClass_of_methodNamed B.named
  have hlocks := B.notSynchronized
  subst hsz
  have g : G3 (dC, dI) L kd tys s f0 [] [101] f0 s.heap [] [] := G3.start hP hD0 hWT Fs.nil
  have hl := lv_entry ([.ref a0_, .ref a1_]) (n := 5) (Nat.le_of_ble_eq_true rfl)
  rw [lg_entry_eq]
  generalize (lg_sl ([.ref a0_, .ref a1_]) ++ List.replicate (5 - (lg_sl ([.ref a0_, .ref a1_])).length) Slot.unset).toArray = ls at hl ⊢
  have hl : lv_has ls 5 [(0, .ref a0_), (1, .ref a1_)] := hl
  refine W_q (fun Q hQ => ?_)
  refine lv_iconst (v := 0) hx hb dX9_fillNew_0 (by decide) ?_
  refine lv_istore_n (lv' := [(2, .int 0), (0, .ref a0_), (1, .ref a1_)]) hx hb dX9_fillNew_1 rfl hl (by decide) rfl (fun ls hl => ?_)
  have loop_1 : ∀ (n : Nat) (v2_2 : Int32), bd 0 10 v2_2 → (10 - v2_2.toInt < (n : Int)) → ∀ (f : Nat → va_E) (H : Heap) (locs : List Loc) (ls : Array Slot), G3 (dC, dI) L kd tys s f0 [] [101] f H locs [] → lv_has ls 5 [(2, .int v2_2), (0, .ref a0_), (1, .ref a1_)] → W p l e ({ frames := 1, cells := 0, slots := 0, locals := 14 } : Room) s m [.ref a0_, .ref a1_].toArray below meth c H locs 0 0 Q (F0 m 2 ls []) := by
    intro n2
    induction n2 with
    | zero =>
      intro v2_2 bv2_2 hm2 f H locs ls g  hl
      exact absurd hm2 (by have h9_v2_2 := bv2_2; unfold bd at h9_v2_2; omega)
    | succ n2 ih2 =>
      intro v2_2 bv2_2 hm2 f H locs ls g  hl
      refine lv_iload_n hx hb dX9_fillNew_2 rfl (lv_at hl 0 rfl) ?_
      refine lv_aload_n hx hb dX9_fillNew_3 rfl (lv_at hl 1 rfl) ?_
      refine g_geti (C := RX9) (T := TX9) (N := 13) hx hb hts (mc_ inX9) hown hK g ma0_ ka0_ (by decide) rfl 2 (by decide) rfl (hts _ (List.mem_cons_of_mem _ t_485)) (fun _ h9 => h9) rfl dX9_fillNew_4 (fun x_2 bx_2 g => ?_)
      refine lv_icmp_ge (tgt := 71) hx hb dX9_fillNew_7 (by decide) (fun c_3 => ?_) (fun c_3 => ?_)
      · have fc_3 := le_f c_3
        subst hQ
        exact W.vret hx hb hr (fun t ht hW => ⟨⟨_, rfl, trivial, q3_of g hK ht hW⟩, g.2.2.1.F ht⟩) g.2.2.1.2.2 dX9_fillNew_71
      · have fc_3 := nle_f c_3
        have b_4 : bd 0 9 v2_2 := ltL fc_3 bv2_2 bx_2 (by decide)
        have b_5 : bd 1 10 x_2 := ltR fc_3 bv2_2 bx_2 (by decide)
        refine lv_aload_n hx hb dX9_fillNew_10 rfl (lv_at hl 1 rfl) ?_
        refine g_getr (K := 153) (C := RX9) (T := TX9) (N := 13) hx hb hts (mc_ inX9) hown hK g ma0_ ka0_ (by decide) rfl 4 (by decide) rfl (hts _ (List.mem_cons_of_mem _ t_489)) (fun _ h9 => h9) rfl dX9_fillNew_11 (fun a_6 ma_6 ka_6 g => ?_)
        refine lv_iload_n hx hb dX9_fillNew_14 rfl (lv_at hl 0 rfl) ?_
        refine g_iald hx hb hK g ma_6 ka_6 (by decide) rfl (in_bd b_4 (by decide)) dX9_fillNew_15 (fun x_7 bx_7 cx_7 => ?_)
        refine lv_aload_n hx hb dX9_fillNew_16 rfl (lv_at hl 1 rfl) ?_
        refine g_getr (K := 154) (C := RX9) (T := TX9) (N := 13) hx hb hts (mc_ inX9) hown hK g ma0_ ka0_ (by decide) rfl 5 (by decide) rfl (hts _ (List.mem_cons_of_mem _ t_490)) (fun _ h9 => h9) rfl dX9_fillNew_17 (fun a_8 ma_8 ka_8 g => ?_)
        refine lv_iload_n hx hb dX9_fillNew_20 rfl (lv_at hl 0 rfl) ?_
        refine g_iald hx hb hK g ma_8 ka_8 (by decide) rfl (in_bd b_4 (by decide)) dX9_fillNew_21 (fun x_9 bx_9 cx_9 => ?_)
        refine lv_iconst (v := 1) hx hb dX9_fillNew_22 (by decide) ?_
        have kb_1 : bd 1 1 (1 : Int32) := ⟨by decide, by decide⟩
        refine va_mmax hx hb (hml.trans hl.1.symm) hown (hts _ (List.mem_cons_of_mem _ t_1168)) (hts _ (List.mem_cons_of_mem _ t_1041)) (hts _ (List.mem_cons_of_mem _ t_204)) (hts _ (List.mem_cons_of_mem _ t_1042)) (Nat.le_of_ble_eq_true rfl) (Nat.le_of_ble_eq_true rfl) (Nat.le_of_ble_eq_true rfl) (Nat.le_of_ble_eq_true rfl) dX9_fillNew_23 ?_
        refine lv_topi (fun y_10 ey_10 => ?_)
        have ty_10 : y_10.toInt = max x_9.toInt (1 : Int32).toInt := by rw [ey_10]; exact mmax_ok _ _
        have b_11 : bd 1 8 y_10 := max_rg ty_10 bx_9 kb_1 (by decide)
        refine lv_iadd hx hb dX9_fillNew_26 ?_
        refine lv_topi (fun y_12 ey_12 => ?_)
        have ty_12 := add_bd ey_12 bx_7 b_11 (by decide)
        have b_13 : bd 1 32 y_12 := add_rg ty_12 bx_7 b_11 (by decide)
        refine lv_istore_n (lv' := [(3, .int y_12), (2, .int v2_2), (0, .ref a0_), (1, .ref a1_)]) hx hb dX9_fillNew_27 rfl hl (by decide) rfl (fun ls hl => ?_)
        refine lv_aload_n hx hb dX9_fillNew_28 rfl (lv_at hl 2 rfl) ?_
        refine g_getk (C := RX9) (T := TX9) (N := 13) hx hb hts (mc_ inX9) hown hK g rfl 4 (by decide) rfl (hts _ (List.mem_cons_of_mem _ t_489)) (fun _ h9 => h9) 1 rfl dX9_fillNew_29 ?_
        refine lv_iload_n hx hb dX9_fillNew_32 rfl (lv_at hl 1 rfl) ?_
        refine g_iald hx hb hK g ma_6 ka_6 (by decide) rfl (in_bd b_4 (by decide)) dX9_fillNew_33 (fun x_14 bx_14 cx_14 => ?_)
        obtain rfl : x_7 = x_14 := el_same cx_7 cx_14 rfl
        refine lv_istore (lv' := [(4, .int x_7), (3, .int y_12), (2, .int v2_2), (0, .ref a0_), (1, .ref a1_)]) hx hb dX9_fillNew_34 hl (by decide) rfl (fun ls hl => ?_)
        have loop_15 : ∀ (n : Nat) (v36_4 : Int32), bd 0 24 v36_4 → (24 - v36_4.toInt < (n : Int)) → ∀ (f : Nat → va_E) (H : Heap) (locs : List Loc) (ls : Array Slot), G3 (dC, dI) L kd tys s f0 [] [101] f H locs [(9, 5, a0_, .ref a_8), (9, 4, a0_, .ref a_6), (9, 2, a0_, .int x_2)] → lv_has ls 5 [(4, .int v36_4), (3, .int y_12), (2, .int v2_2), (0, .ref a0_), (1, .ref a1_)] → W p l e ({ frames := 1, cells := 0, slots := 0, locals := 14 } : Room) s m [.ref a0_, .ref a1_].toArray below meth c H locs 0 0 Q (F0 m 36 ls []) := by
          intro n36
          induction n36 with
          | zero =>
            intro v36_4 bv36_4 hm36 f H locs ls g  hl
            exact absurd hm36 (by have h9_v36_4 := bv36_4; unfold bd at h9_v36_4; omega)
          | succ n36 ih36 =>
            intro v36_4 bv36_4 hm36 f H locs ls g  hl
            refine lv_iload hx hb dX9_fillNew_36 (lv_at hl 0 rfl) ?_
            refine lv_iload_n hx hb dX9_fillNew_38 rfl (lv_at hl 1 rfl) ?_
            refine lv_icmp_ge (tgt := 65) hx hb dX9_fillNew_39 (by decide) (fun c_16 => ?_) (fun c_16 => ?_)
            · have fc_16 := le_f c_16
              have b_17 : bd 1 24 y_12 := leL fc_16 b_13 bv36_4 (by decide)
              have b_18 : bd 0 23 x_7 := add_inv2 ty_12 b_17 bx_7 b_11 (by decide)
              have b_19 : bd 1 24 v36_4 := leR fc_16 b_13 bv36_4 (by decide)
              obtain ⟨y_20, ey_20⟩ : ∃ z : Int32, z = v2_2 + 1 := ⟨_, rfl⟩
              refine lv_iinc (v := y_20) (lv' := [(2, .int y_20), (4, .int v36_4), (3, .int y_12), (0, .ref a0_), (1, .ref a1_)]) hx hb dX9_fillNew_65 hl (k := 2) rfl (by rw [ey_20]; rfl) (by decide) rfl (fun ls hl => ?_)
              have ty_20 := add_bd ey_20 b_4 kb_1 (by decide)
              have b_21 : bd 1 10 y_20 := add_rg ty_20 b_4 kb_1 (by decide)
              refine lv_goto (tgt := 2) hx hb dX9_fillNew_68 (by decide) ?_
              have hl9 := lv_sub hl [0, 3, 4] (by rfl : lv_pick [(2, .int y_20), (4, .int v36_4), (3, .int y_12), (0, .ref a0_), (1, .ref a1_)] [0, 3, 4] = [(2, .int y_20), (0, .ref a0_), (1, .ref a1_)])
              have g9 := g.sub (fx' := []) [] rfl
              exact ih2  y_20 (bd_sub b_21 (by decide)) (by have h9_0 := b_21; unfold bd at h9_0; have h9_1 := bv2_2; unfold bd at h9_1; have h9_2 := kb_1; unfold bd at h9_2; omega) _ _ _ _ g9  hl9
            · have fc_16 := nle_f c_16
              refine lv_iload hx hb dX9_fillNew_42 (lv_at hl 0 rfl) ?_
              refine lv_aload_n hx hb dX9_fillNew_44 rfl (lv_at hl 4 rfl) ?_
              refine g_alen (v := 24) hx hb hK g ma1_ ka1_ (by decide) rfl dX9_fillNew_45 ?_
              have kb_24 : bd 24 24 (24 : Int32) := ⟨by decide, by decide⟩
              refine lv_icmp_ge (tgt := 65) hx hb dX9_fillNew_46 (by decide) (fun c_22 => ?_) (fun c_22 => ?_)
              · have fc_22 := le_f c_22
                have b_23 : bd 24 24 v36_4 := leR fc_22 kb_24 bv36_4 (by decide)
                obtain ⟨y_24, ey_24⟩ : ∃ z : Int32, z = v2_2 + 1 := ⟨_, rfl⟩
                refine lv_iinc (v := y_24) (lv' := [(2, .int y_24), (4, .int v36_4), (3, .int y_12), (0, .ref a0_), (1, .ref a1_)]) hx hb dX9_fillNew_65 hl (k := 2) rfl (by rw [ey_24]; rfl) (by decide) rfl (fun ls hl => ?_)
                have ty_24 := add_bd ey_24 b_4 kb_1 (by decide)
                have b_25 : bd 1 10 y_24 := add_rg ty_24 b_4 kb_1 (by decide)
                refine lv_goto (tgt := 2) hx hb dX9_fillNew_68 (by decide) ?_
                have hl9 := lv_sub hl [0, 3, 4] (by rfl : lv_pick [(2, .int y_24), (4, .int v36_4), (3, .int y_12), (0, .ref a0_), (1, .ref a1_)] [0, 3, 4] = [(2, .int y_24), (0, .ref a0_), (1, .ref a1_)])
                have g9 := g.sub (fx' := []) [] rfl
                exact ih2  y_24 (bd_sub b_25 (by decide)) (by have h9_0 := b_25; unfold bd at h9_0; have h9_1 := bv2_2; unfold bd at h9_1; have h9_2 := kb_1; unfold bd at h9_2; have h9_3 := kb_24; unfold bd at h9_3; omega) _ _ _ _ g9  hl9
              · have fc_22 := nle_f c_22
                have b_26 : bd 0 23 v36_4 := ltL fc_22 bv36_4 kb_24 (by decide)
                refine lv_aload_n hx hb dX9_fillNew_49 rfl (lv_at hl 4 rfl) ?_
                refine lv_iload hx hb dX9_fillNew_50 (lv_at hl 0 rfl) ?_
                refine lv_aload_n hx hb dX9_fillNew_52 rfl (lv_at hl 3 rfl) ?_
                refine g_getr (K := 155) (C := RX9) (T := TX9) (N := 13) hx hb hts (mc_ inX9) hown hK g ma0_ ka0_ (by decide) rfl 6 (by decide) rfl (hts _ (List.mem_cons_of_mem _ t_492)) (fun _ h9 => h9) rfl dX9_fillNew_53 (fun a_27 ma_27 ka_27 g => ?_)
                refine lv_iload_n hx hb dX9_fillNew_56 rfl (lv_at hl 2 rfl) ?_
                refine g_iald hx hb hK g ma_27 ka_27 (by decide) rfl (in_bd b_4 (by decide)) dX9_fillNew_57 (fun x_28 bx_28 cx_28 => ?_)
                refine g_iast hx hb hK g ma1_ ka1_ (by decide) rfl (in_bd b_26 (by decide)) (bdT x_28) (by decide) dX9_fillNew_58 (fun f H locs hM_29 g => ?_)
                obtain ⟨y_30, ey_30⟩ : ∃ z : Int32, z = v36_4 + 1 := ⟨_, rfl⟩
                refine lv_iinc (v := y_30) (lv' := [(4, .int y_30), (3, .int y_12), (2, .int v2_2), (0, .ref a0_), (1, .ref a1_)]) hx hb dX9_fillNew_59 hl (k := 0) rfl (by rw [ey_30]; rfl) (by decide) rfl (fun ls hl => ?_)
                have ty_30 := add_bd ey_30 b_26 kb_1 (by decide)
                have b_31 : bd 1 24 y_30 := add_rg ty_30 b_26 kb_1 (by decide)
                refine lv_goto (tgt := 36) hx hb dX9_fillNew_62 (by decide) ?_
                have hl9 := lv_sub hl [0, 1, 2, 3, 4] (by rfl : lv_pick [(4, .int y_30), (3, .int y_12), (2, .int v2_2), (0, .ref a0_), (1, .ref a1_)] [0, 1, 2, 3, 4] = [(4, .int y_30), (3, .int y_12), (2, .int v2_2), (0, .ref a0_), (1, .ref a1_)])
                have g9 := g.sub (fx' := [(9, 5, a0_, .ref a_8), (9, 4, a0_, .ref a_6), (9, 2, a0_, .int x_2)]) [1, 2, 3] rfl
                exact ih36  y_30 (bd_sub b_31 (by decide)) (by have h9_0 := b_31; unfold bd at h9_0; have h9_1 := bv36_4; unfold bd at h9_1; have h9_2 := kb_1; unfold bd at h9_2; have h9_3 := kb_24; unfold bd at h9_3; omega) _ _ _ _ g9  hl9
        have hl9 := lv_sub hl [0, 1, 2, 3, 4] (by rfl : lv_pick [(4, .int x_7), (3, .int y_12), (2, .int v2_2), (0, .ref a0_), (1, .ref a1_)] [0, 1, 2, 3, 4] = [(4, .int x_7), (3, .int y_12), (2, .int v2_2), (0, .ref a0_), (1, .ref a1_)])
        have g9 := g.sub (fx' := [(9, 5, a0_, .ref a_8), (9, 4, a0_, .ref a_6), (9, 2, a0_, .int x_2)]) [0, 1, 2] rfl
        exact loop_15 (51) x_7 bx_7 (by have h9_0 := bx_7; unfold bd at h9_0; have h9_1 := kb_1; unfold bd at h9_1; omega) _ _ _ _ g9  hl9
  have kb_0 : bd 0 0 (0 : Int32) := ⟨by decide, by decide⟩
  have hl9 := lv_sub hl [0, 1, 2] (by rfl : lv_pick [(2, .int 0), (0, .ref a0_), (1, .ref a1_)] [0, 1, 2] = [(2, .int 0), (0, .ref a0_), (1, .ref a1_)])
  have g9 := g.sub (fx' := []) [] rfl
  exact loop_1 (23) 0 (bd_sub kb_0 (by decide)) (by have h9_0 := kb_0; unfold bd at h9_0; omega) _ _ _ _ g9  hl9
set_option maxHeartbeats 4000000 in
set_option maxRecDepth 100000 in
theorem r_X1_standOn (l : Launch) (dC : Nat → ClassId) (dI : Nat → Nat → Nat) (L : List Nat) (kd : Nat → Nat) (tys : List (ClassId × FieldType)) (f0 : Nat → va_E) (sz : Nat) (hWT : WT L kd tys f0) (a0_ : Nat) (ma0_ : a0_ ∈ L) (ka0_ : kd a0_ = 1) (a1_ : Nat) (ma1_ : a1_ ∈ L) (ka1_ : kd a1_ = 7) (a2_ : Nat) (ma2_ : a2_ ∈ L) (ka2_ : kd a2_ = 9) (a3_ : Nat) (ma3_ : a3_ ∈ L) (ka3_ : kd a3_ = 101) (a4_ : Nat) (ma4_ : a4_ ∈ L) (ka4_ : kd a4_ = 101) (a5_ : Nat) (ma5_ : a5_ ∈ L) (ka5_ : kd a5_ = 101) : Met l yX1_standOn (.code yX1_standOn cX1_standOn 6 none :: lw_g) ({ frames := 0, cells := 0, slots := 0, locals := 0 }) (va_Pc [.ref a0_, .ref a1_, .ref a2_, .ref a3_, .ref a4_, .ref a5_] (P3 (dC, dI) L tys f0 sz)) (va_Qv (fun (f : Nat → va_E) => (Fs L kd f [(1, 4, a0_, .ref a5_), (1, 3, a0_, .ref a4_), (1, 2, a0_, .ref a3_), (1, 1, a0_, .ref a2_), (1, 0, a0_, .ref a1_)])) (Q3 (dC, dI) L kd tys [(1, 0), (1, 1), (1, 2), (1, 3), (1, 4)] [] f0 sz) (pA L sz)) 0 0 (pA L sz) := by
  refine Met.ofW (cc := cX1_standOn) (maxL := 6) (ret := none) (by decide) rfl ?_
  intro p e s m args below meth c s₁ B hml hv
  obtain ⟨rfl, hsz, hP, hK, hD0⟩ := hv
  have hx := B.exec
  have hb := B.bytes
  have hr := B.returns
  have hts := atoms_spec (ws := (.code yX1_standOn cX1_standOn 6 none :: lw_g)) B.pre
  have hown : s.vm.findClass RX1 = some m.cls := findClass_of_methodNamed B.named
  have hlocks := B.notSynchronized
  subst hsz
  have g : G3 (dC, dI) L kd tys s f0 [(1, 0), (1, 1), (1, 2), (1, 3), (1, 4)] [] f0 s.heap [] [] := G3.start hP hD0 hWT Fs.nil
  have hl := lv_entry ([.ref a0_, .ref a1_, .ref a2_, .ref a3_, .ref a4_, .ref a5_]) (n := 6) (Nat.le_of_ble_eq_true rfl)
  rw [lg_entry_eq]
  generalize (lg_sl ([.ref a0_, .ref a1_, .ref a2_, .ref a3_, .ref a4_, .ref a5_]) ++ List.replicate (6 - (lg_sl ([.ref a0_, .ref a1_, .ref a2_, .ref a3_, .ref a4_, .ref a5_])).length) Slot.unset).toArray = ls at hl ⊢
  have hl : lv_has ls 6 [(0, .ref a0_), (1, .ref a1_), (2, .ref a2_), (3, .ref a3_), (4, .ref a4_), (5, .ref a5_)] := hl
  refine W_q (fun Q hQ => ?_)
  refine lv_aload_n hx hb dX1_standOn_0 rfl (lv_at hl 0 rfl) ?_
  refine lv_aload_n hx hb dX1_standOn_1 rfl (lv_at hl 1 rfl) ?_
  refine g_put (C := RX1) (T := TX1) (N := 18) hx hb hts (mc_ inX1) tyX1 tyX1_ok nmX1 hown hK g ma0_ ka0_ (by decide) rfl 0 (by decide) (hts _ (List.mem_cons_of_mem _ t_735)) (fun _ h9 => h9) rfl rfl (okV_n ma1_ ka1_ (by decide)) rfl rfl (by decide) (Or.inr (Or.inl (by decide))) (fx' := []) rfl dX1_standOn_2 (fun f H locs hM_1 g => ?_)
  refine lv_aload_n hx hb dX1_standOn_5 rfl (lv_at hl 0 rfl) ?_
  refine lv_aload_n hx hb dX1_standOn_6 rfl (lv_at hl 2 rfl) ?_
  refine g_put (C := RX1) (T := TX1) (N := 18) hx hb hts (mc_ inX1) tyX1 tyX1_ok nmX1 hown hK g ma0_ ka0_ (by decide) rfl 1 (by decide) (hts _ (List.mem_cons_of_mem _ t_736)) (fun _ h9 => h9) rfl rfl (okV_n ma2_ ka2_ (by decide)) rfl rfl (by decide) (Or.inr (Or.inl (by decide))) (fx' := [(1, 0, a0_, .ref a1_)]) rfl dX1_standOn_7 (fun f H locs hM_2 g => ?_)
  refine lv_aload_n hx hb dX1_standOn_10 rfl (lv_at hl 0 rfl) ?_
  refine lv_aload_n hx hb dX1_standOn_11 rfl (lv_at hl 3 rfl) ?_
  refine g_put (C := RX1) (T := TX1) (N := 18) hx hb hts (mc_ inX1) tyX1 tyX1_ok nmX1 hown hK g ma0_ ka0_ (by decide) rfl 2 (by decide) (hts _ (List.mem_cons_of_mem _ t_737)) (fun _ h9 => h9) rfl rfl (okV_r ma3_ ka3_ (by decide)) rfl rfl (by decide) (Or.inr (Or.inl (by decide))) (fx' := [(1, 1, a0_, .ref a2_), (1, 0, a0_, .ref a1_)]) rfl dX1_standOn_12 (fun f H locs hM_3 g => ?_)
  refine lv_aload_n hx hb dX1_standOn_15 rfl (lv_at hl 0 rfl) ?_
  refine lv_aload hx hb dX1_standOn_16 (lv_at hl 4 rfl) ?_
  refine g_put (C := RX1) (T := TX1) (N := 18) hx hb hts (mc_ inX1) tyX1 tyX1_ok nmX1 hown hK g ma0_ ka0_ (by decide) rfl 3 (by decide) (hts _ (List.mem_cons_of_mem _ t_738)) (fun _ h9 => h9) rfl rfl (okV_r ma4_ ka4_ (by decide)) rfl rfl (by decide) (Or.inr (Or.inl (by decide))) (fx' := [(1, 2, a0_, .ref a3_), (1, 1, a0_, .ref a2_), (1, 0, a0_, .ref a1_)]) rfl dX1_standOn_18 (fun f H locs hM_4 g => ?_)
  refine lv_aload_n hx hb dX1_standOn_21 rfl (lv_at hl 0 rfl) ?_
  refine lv_aload hx hb dX1_standOn_22 (lv_at hl 5 rfl) ?_
  refine g_put (C := RX1) (T := TX1) (N := 18) hx hb hts (mc_ inX1) tyX1 tyX1_ok nmX1 hown hK g ma0_ ka0_ (by decide) rfl 4 (by decide) (hts _ (List.mem_cons_of_mem _ t_739)) (fun _ h9 => h9) rfl rfl (okV_r ma5_ ka5_ (by decide)) rfl rfl (by decide) (Or.inr (Or.inl (by decide))) (fx' := [(1, 3, a0_, .ref a4_), (1, 2, a0_, .ref a3_), (1, 1, a0_, .ref a2_), (1, 0, a0_, .ref a1_)]) rfl dX1_standOn_24 (fun f H locs hM_5 g => ?_)
  subst hQ
  exact W.vret hx hb hr (fun t ht hW => ⟨⟨_, rfl, (g.fcts [0, 1, 2, 3, 4] rfl), q3_of g hK ht hW⟩, g.2.2.1.F ht⟩) g.2.2.1.2.2 dX1_standOn_27
set_option maxHeartbeats 4000000 in
set_option maxRecDepth 100000 in
theorem r_X1_readyToAsk (l : Launch) (dC : Nat → ClassId) (dI : Nat → Nat → Nat) (L : List Nat) (kd : Nat → Nat) (tys : List (ClassId × FieldType)) (f0 : Nat → va_E) (sz : Nat) (hWT : WT L kd tys f0) (a0_ : Nat) (ma0_ : a0_ ∈ L) (ka0_ : kd a0_ = 1) (x1_ : Int32) (x2_ : Int32) : Met l yX1_readyToAsk (.code yX1_readyToAsk cX1_readyToAsk 3 none :: lw_g) ({ frames := 0, cells := 0, slots := 0, locals := 0 }) (va_Pc [.ref a0_, .int x1_, .int x2_] (P3 (dC, dI) L tys f0 sz)) (va_Qv (fun (f : Nat → va_E) => (Fs L kd f [(1, 13, a0_, .int x1_), (1, 12, a0_, .int 0), (1, 6, a0_, .int x2_), (1, 5, a0_, .int 1)])) (Q3 (dC, dI) L kd tys [(1, 5), (1, 6), (1, 12), (1, 13)] [] f0 sz) (pA L sz)) 0 0 (pA L sz) := by
  refine Met.ofW (cc := cX1_readyToAsk) (maxL := 3) (ret := none) (by decide) rfl ?_
  intro p e s m args below meth c s₁ B hml hv
  obtain ⟨rfl, hsz, hP, hK, hD0⟩ := hv
  have hx := B.exec
  have hb := B.bytes
  have hr := B.returns
  have hts := atoms_spec (ws := (.code yX1_readyToAsk cX1_readyToAsk 3 none :: lw_g)) B.pre
  have hown : s.vm.findClass RX1 = some m.cls := findClass_of_methodNamed B.named
  have hlocks := B.notSynchronized
  subst hsz
  have g : G3 (dC, dI) L kd tys s f0 [(1, 5), (1, 6), (1, 12), (1, 13)] [] f0 s.heap [] [] := G3.start hP hD0 hWT Fs.nil
  have hl := lv_entry ([.ref a0_, .int x1_, .int x2_]) (n := 3) (Nat.le_of_ble_eq_true rfl)
  rw [lg_entry_eq]
  generalize (lg_sl ([.ref a0_, .int x1_, .int x2_]) ++ List.replicate (3 - (lg_sl ([.ref a0_, .int x1_, .int x2_])).length) Slot.unset).toArray = ls at hl ⊢
  have hl : lv_has ls 3 [(0, .ref a0_), (1, .int x1_), (2, .int x2_)] := hl
  refine W_q (fun Q hQ => ?_)
  refine lv_aload_n hx hb dX1_readyToAsk_0 rfl (lv_at hl 0 rfl) ?_
  refine lv_iconst (v := 1) hx hb dX1_readyToAsk_1 (by decide) ?_
  have kb_1 : bd 1 1 (1 : Int32) := ⟨by decide, by decide⟩
  refine g_put (C := RX1) (T := TX1) (N := 18) hx hb hts (mc_ inX1) tyX1 tyX1_ok nmX1 hown hK g ma0_ ka0_ (by decide) rfl 5 (by decide) (hts _ (List.mem_cons_of_mem _ t_740)) (fun _ h9 => h9) rfl rfl (okV_i (bd_sub kb_1 (by decide))) rfl rfl (by decide) (Or.inr (Or.inl (by decide))) (fx' := []) rfl dX1_readyToAsk_2 (fun f H locs hM_1 g => ?_)
  refine lv_aload_n hx hb dX1_readyToAsk_5 rfl (lv_at hl 0 rfl) ?_
  refine lv_iload_n hx hb dX1_readyToAsk_6 rfl (lv_at hl 2 rfl) ?_
  refine g_put (C := RX1) (T := TX1) (N := 18) hx hb hts (mc_ inX1) tyX1 tyX1_ok nmX1 hown hK g ma0_ ka0_ (by decide) rfl 6 (by decide) (hts _ (List.mem_cons_of_mem _ t_741)) (fun _ h9 => h9) rfl rfl (okV_i (bdT x2_)) rfl rfl (by decide) (Or.inr (Or.inl (by decide))) (fx' := [(1, 5, a0_, .int 1)]) rfl dX1_readyToAsk_7 (fun f H locs hM_2 g => ?_)
  refine lv_aload_n hx hb dX1_readyToAsk_10 rfl (lv_at hl 0 rfl) ?_
  refine lv_iconst (v := 0) hx hb dX1_readyToAsk_11 (by decide) ?_
  have kb_0 : bd 0 0 (0 : Int32) := ⟨by decide, by decide⟩
  refine g_put (C := RX1) (T := TX1) (N := 18) hx hb hts (mc_ inX1) tyX1 tyX1_ok nmX1 hown hK g ma0_ ka0_ (by decide) rfl 12 (by decide) (hts _ (List.mem_cons_of_mem _ t_747)) (fun _ h9 => h9) rfl rfl (okV_i (bd_sub kb_0 (by decide))) rfl rfl (by decide) (Or.inr (Or.inl (by decide))) (fx' := [(1, 6, a0_, .int x2_), (1, 5, a0_, .int 1)]) rfl dX1_readyToAsk_12 (fun f H locs hM_3 g => ?_)
  refine lv_aload_n hx hb dX1_readyToAsk_15 rfl (lv_at hl 0 rfl) ?_
  refine lv_iload_n hx hb dX1_readyToAsk_16 rfl (lv_at hl 1 rfl) ?_
  refine g_put (C := RX1) (T := TX1) (N := 18) hx hb hts (mc_ inX1) tyX1 tyX1_ok nmX1 hown hK g ma0_ ka0_ (by decide) rfl 13 (by decide) (hts _ (List.mem_cons_of_mem _ t_748)) (fun _ h9 => h9) rfl rfl (okV_i (bdT x1_)) rfl rfl (by decide) (Or.inr (Or.inl (by decide))) (fx' := [(1, 12, a0_, .int 0), (1, 6, a0_, .int x2_), (1, 5, a0_, .int 1)]) rfl dX1_readyToAsk_17 (fun f H locs hM_4 g => ?_)
  subst hQ
  exact W.vret hx hb hr (fun t ht hW => ⟨⟨_, rfl, (g.fcts [0, 1, 2, 3] rfl), q3_of g hK ht hW⟩, g.2.2.1.F ht⟩) g.2.2.1.2.2 dX1_readyToAsk_20
set_option maxHeartbeats 4000000 in
set_option maxRecDepth 100000 in
theorem r_X1_pop (l : Launch) (dC : Nat → ClassId) (dI : Nat → Nat → Nat) (L : List Nat) (kd : Nat → Nat) (tys : List (ClassId × FieldType)) (f0 : Nat → va_E) (sz : Nat) (hWT : WT L kd tys f0) (a0_ : Nat) (ma0_ : a0_ ∈ L) (ka0_ : kd a0_ = 1) : Met l yX1_pop (.code yX1_pop cX1_pop 1 (some .int) :: lw_g) ({ frames := 0, cells := 0, slots := 0, locals := 0 }) (va_Pc [.ref a0_] (P3 (dC, dI) L tys f0 sz)) (va_Qi (fun (r : Int32) (f : Nat → va_E) => (∃ z0_ : Int32, bd 0 699 z0_ ∧ Fs L kd f [(1, 8, a0_, .int z0_)])) (Q3 (dC, dI) L kd tys [(1, 8)] [] f0 sz) (pA L sz)) 0 0 (pA L sz) := by
  refine Met.ofW (cc := cX1_pop) (maxL := 1) (ret := (some .int)) (by decide) rfl ?_
  intro p e s m args below meth c s₁ B hml hv
  obtain ⟨rfl, hsz, hP, hK, hD0⟩ := hv
  have hx := B.exec
  have hb := B.bytes
  have hr := B.returns
  have hts := atoms_spec (ws := (.code yX1_pop cX1_pop 1 (some .int) :: lw_g)) B.pre
  have hown : s.vm.findClass RX1 = some m.cls := findClass_of_methodNamed B.named
  have hlocks := B.notSynchronized
  subst hsz
  have g : G3 (dC, dI) L kd tys s f0 [(1, 8)] [] f0 s.heap [] [] := G3.start hP hD0 hWT Fs.nil
  have hl := lv_entry ([.ref a0_]) (n := 1) (Nat.le_of_ble_eq_true rfl)
  rw [lg_entry_eq]
  generalize (lg_sl ([.ref a0_]) ++ List.replicate (1 - (lg_sl ([.ref a0_])).length) Slot.unset).toArray = ls at hl ⊢
  have hl : lv_has ls 1 [(0, .ref a0_)] := hl
  refine W_q (fun Q hQ => ?_)
  refine lv_aload_n hx hb dX1_pop_0 rfl (lv_at hl 0 rfl) ?_
  refine g_geti (C := RX1) (T := TX1) (N := 18) hx hb hts (mc_ inX1) hown hK g ma0_ ka0_ (by decide) rfl 8 (by decide) rfl (hts _ (List.mem_cons_of_mem _ t_743)) (fun _ h9 => h9) rfl dX1_pop_1 (fun x_1 bx_1 g => ?_)
  have kb_0 : bd 0 0 (0 : Int32) := ⟨by decide, by decide⟩
  refine lv_if_ne (tgt := 9) hx hb dX1_pop_4 (by decide) (fun c_2 => ?_) (fun c_2 => ?_)
  · have fc_2 := neq_f c_2
    have b_3 : bd 1 700 x_1 := neX fc_2 bx_1 kb_0 (by decide)
    refine lv_aload_n hx hb dX1_pop_9 rfl (lv_at hl 0 rfl) ?_
    refine lv_dup hx hb dX1_pop_10 rfl ?_
    refine g_getk (C := RX1) (T := TX1) (N := 18) hx hb hts (mc_ inX1) hown hK g rfl 8 (by decide) rfl (hts _ (List.mem_cons_of_mem _ t_743)) (fun _ h9 => h9) 0 rfl dX1_pop_11 ?_
    refine lv_iconst (v := 1) hx hb dX1_pop_14 (by decide) ?_
    have kb_1 : bd 1 1 (1 : Int32) := ⟨by decide, by decide⟩
    refine lv_isub hx hb dX1_pop_15 ?_
    refine lv_topi (fun y_4 ey_4 => ?_)
    have ty_4 := sub_bd ey_4 b_3 kb_1 (by decide)
    have b_5 : bd 0 699 y_4 := sub_rg ty_4 b_3 kb_1 (by decide)
    refine g_put (C := RX1) (T := TX1) (N := 18) hx hb hts (mc_ inX1) tyX1 tyX1_ok nmX1 hown hK g ma0_ ka0_ (by decide) rfl 8 (by decide) (hts _ (List.mem_cons_of_mem _ t_743)) (fun _ h9 => h9) rfl rfl (okV_i (bd_sub b_5 (by decide))) rfl rfl (by decide) (Or.inr (Or.inl (by decide))) (fx' := []) rfl dX1_pop_16 (fun f H locs hM_6 g => ?_)
    refine lv_aload_n hx hb dX1_pop_19 rfl (lv_at hl 0 rfl) ?_
    refine g_getr (K := 100) (C := RX1) (T := TX1) (N := 18) hx hb hts (mc_ inX1) hown hK g ma0_ ka0_ (by decide) rfl 7 (by decide) rfl (hts _ (List.mem_cons_of_mem _ t_742)) (fun _ h9 => h9) rfl dX1_pop_20 (fun a_7 ma_7 ka_7 g => ?_)
    refine lv_aload_n hx hb dX1_pop_23 rfl (lv_at hl 0 rfl) ?_
    refine g_getk (C := RX1) (T := TX1) (N := 18) hx hb hts (mc_ inX1) hown hK g rfl 8 (by decide) rfl (hts _ (List.mem_cons_of_mem _ t_743)) (fun _ h9 => h9) 1 rfl dX1_pop_24 ?_
    refine g_iald hx hb hK g ma_7 ka_7 (by decide) rfl (in_bd b_5 (by decide)) dX1_pop_27 (fun x_8 bx_8 cx_8 => ?_)
    subst hQ
    exact W.iret (v := x_8) hx hb hr (fun t ht hW => ⟨⟨_, _, rfl, ⟨y_4, b_5, (g.fcts [1] rfl)⟩, q3_of g hK ht hW⟩, g.2.2.1.F ht⟩) g.2.2.1.2.2 dX1_pop_28
  · have fc_2 := eq_f c_2
    have b_9 : bd 0 0 x_1 := eqX fc_2 bx_1 kb_0 (by decide)
    refine lv_iconst (v := 0) hx hb dX1_pop_7 (by decide) ?_
    subst hQ
    exact W.iret (v := 0) hx hb hr (fun t ht hW => ⟨⟨_, _, rfl, ⟨x_1, (bd_sub b_9 (by decide)), (g.fcts [0] rfl)⟩, q3_of g hK ht hW⟩, g.2.2.1.F ht⟩) g.2.2.1.2.2 dX1_pop_8
