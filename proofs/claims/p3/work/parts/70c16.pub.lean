set_option maxHeartbeats 4000000 in
set_option maxRecDepth 100000 in
theorem r_X3_changeLastQ (l : Launch) (dC : Nat → ClassId) (dI : Nat → Nat → Nat) (L : List Nat) (kd : Nat → Nat) (tys : List (ClassId × FieldType)) (f0 : Nat → va_E) (sz : Nat) (hWT : WT L kd tys f0) (a0_ : Nat) (ma0_ : a0_ ∈ L) (ka0_ : kd a0_ = 3) (p_ : Nat) (mp_ : p_ ∈ L) (kp_ : kd p_ = 124) (m_ : Nat) (mm_ : m_ ∈ L) (km_ : kd m_ = 123) (A_ : Nat → Nat) (Q_ : RQ) (n_ : Int32) (bn_ : bd 0 10 n_) (k_ : Int32) (bk_ : bd 0 3 k_) (hJ_ : arP f0 p_ A_) (hQ_ : isQ L kd f0 m_ A_ Q_) (hw : wQ Q_ n_ k_) (x1_ : Nat) (mx1_ : x1_ ∈ L) (kx1_ : kd x1_ = 7) (x2_ : Int32) (bx2_ : bd 0 7 x2_) (x3_ : Int32) (bx3_ : bd 0 9 x3_) (hi : 1 ≤ x3_.toInt ∧ x3_.toInt < n_.toInt) (hfx : Fs L kd f0 [(3, 0, a0_, .int n_), (3, 4, a0_, .int k_), (3, 2, a0_, .ref m_), (3, 3, a0_, .ref p_)]) : Met l yX3_changeLast (.code yX3_changeLast cX3_changeLast 7 (some .boolean) :: lw_g) ({ frames := 2, cells := 0, slots := 0, locals := 48 }) (va_Pc [.ref a0_, .ref x1_, .int x2_, .int x3_] (P3 (dC, dI) L tys f0 sz)) (va_Qi (fun (r : Int32) (f : Nat → va_E) => ((rowT L kd f0 f a0_ m_ A_ (fun Q1 n1 k1 => wQ Q1 n1 k1 ∧ n1.toInt = x3_.toInt + 1)) ∧ bd 0 1 r ∧ True)) (Q3 (dC, dI) L kd tys [(3, 0), (3, 4)] [103, 122, 123, 125] f0 sz) (pA L sz)) 0 0 (pA L sz) := by
  refine Met.ofW (cc := cX3_changeLast) (maxL := 7) (ret := (some .boolean)) (by decide) rfl ?_
  intro p e s m args below meth c s₁ B hml hv
  obtain ⟨rfl, hsz, hP, hK, hD0⟩ := hv
  have hx := B.exec
  have hb := B.bytes
  have hr := B.returns
  have hts := atoms_spec (ws := (.code yX3_changeLast cX3_changeLast 7 (some .boolean) :: lw_g)) B.pre
  have hown : s.vm.findClass RX3 = some m.cls := findClass_of_methodNamed B.named
  have hlocks := B.notSynchronized
  subst hsz
  have g : G3 (dC, dI) L kd tys s f0 [(3, 0), (3, 4)] [103, 122, 123, 125] f0 s.heap [] [(3, 0, a0_, .int n_), (3, 4, a0_, .int k_), (3, 2, a0_, .ref m_), (3, 3, a0_, .ref p_)] := G3.start hP hD0 hWT hfx
  have hl := lv_entry ([.ref a0_, .ref x1_, .int x2_, .int x3_]) (n := 7) (Nat.le_of_ble_eq_true rfl)
  rw [lg_entry_eq]
  generalize (lg_sl ([.ref a0_, .ref x1_, .int x2_, .int x3_]) ++ List.replicate (7 - (lg_sl ([.ref a0_, .ref x1_, .int x2_, .int x3_])).length) Slot.unset).toArray = ls at hl ⊢
  have hl : lv_has ls 7 [(0, .ref a0_), (1, .ref x1_), (2, .int x2_), (3, .int x3_)] := hl
  refine W_q (fun Q hQ => ?_)
  have hU_0 : QR L kd f0 f0 a0_ m_ A_ := QR.refl
  refine lv_aload_n hx hb dX3_changeLast_0 rfl (lv_at hl 0 rfl) ?_
  refine lv_iload_n hx hb dX3_changeLast_1 rfl (lv_at hl 3 rfl) ?_
  refine lv_iconst (v := 1) hx hb dX3_changeLast_2 (by decide) ?_
  have kb_1 : bd 1 1 (1 : Int32) := ⟨by decide, by decide⟩
  refine lv_iadd hx hb dX3_changeLast_3 ?_
  refine lv_topi (fun y_1 ey_1 => ?_)
  have ty_1 := add_bd ey_1 bx3_ kb_1 (by decide)
  have b_2 : bd 1 10 y_1 := add_rg ty_1 bx3_ kb_1 (by decide)
  have go_ := g
  refine g_callv (va_runV (As := [.int y_1]) (rest := []) ⟨hx, hb, hml, hown, hts⟩ (r_X3_shortenQ l dC dI L kd tys f0 s.heap.size g.2.2.2.1 a0_ ma0_ ka0_ p_ mp_ kp_ m_ mm_ km_ A_ Q_ n_ bn_ k_ bk_ hJ_ hQ_ hw y_1 (bd_sub b_2 (by decide)) (by have h9_0 := bk_; unfold bd at h9_0; have h9_1 := bn_; unfold bd at h9_1; have h9_2 := bx2_; unfold bd at h9_2; have h9_3 := bx3_; unfold bd at h9_3; have h9_4 := b_2; unfold bd at h9_4; have h8_0 := kb_1; unfold bd at h8_0; omega) (g.fcts [0, 1, 2, 3] rfl)) (cwV 1 hts (gV_ t_1719 t_1721 t_85 t_196 t_1722) rfl rfl rfl (by decide +kernel) ⟨(Nat.le_of_ble_eq_true rfl), (Nat.le_of_ble_eq_true rfl)⟩) (pre3V g hK ma0_ ka0_ (by decide) (q := (RX3, TX3, 6)) rfl) rfl rfl hl.1 rfl (lv_room (Nat.le_of_ble_eq_true rfl)) dX3_changeLast_4 ⟨(Nat.le_of_ble_eq_true rfl), (Nat.le_of_ble_eq_true rfl)⟩) g hK (by decide) (by decide) (fx' := [(3, 2, a0_, .ref m_), (3, 3, a0_, .ref p_)]) rfl (fun fr_3 H locs hp hMr_3 g => ?_)
  obtain ⟨hx_4, -⟩ := hp
  have hG_5 := isQ.frame hMr_3 go_.2.2.2.1 ma0_ ka0_ (by decide) (by decide) hQ_
  have hG_6 := arP.frame hMr_3 go_.2.2.2.1 mp_ kp_ (by decide) (by decide) hJ_
  obtain ⟨Q_7, n_8, k_9, hQ_10, hU_11, h0_12, h4_13, b0_14, b4_15, hP_16⟩ := hx_4
  have hU_17 := QR.tr hU_0 hU_11
  have g := G3.add g ma0_ ka0_ (by decide) h0_12
  have g := G3.add g ma0_ ka0_ (by decide) h4_13
  have hz_18q : Q_ = Q_7 := hP_16.2.1.symm
  subst hz_18q
  refine lv_aload_n hx hb dX3_changeLast_7 rfl (lv_at hl 0 rfl) ?_
  refine g_getk (C := RX3) (T := TX3) (N := 6) hx hb hts (mc_ inX3) hown hK g rfl 2 (by decide) rfl (hts _ (List.mem_cons_of_mem _ t_807)) (fun _ h9 => h9) 2 rfl dX3_changeLast_8 ?_
  refine lv_iload_n hx hb dX3_changeLast_11 rfl (lv_at hl 3 rfl) ?_
  refine g_iald hx hb hK g mm_ km_ (by decide) rfl (in_bd bx3_ (by decide)) dX3_changeLast_12 (fun x_19 bx_19 cx_19 => ?_)
  have vx_19 : x_19 = Q_.1 x3_.toNatClampNeg := cx_19.trans (hQ_10.2.2.2.2.1 _)
  refine lv_iconst (v := (-1)) hx hb dX3_changeLast_13 (by decide) ?_
  have kb_m1 : bd (-1) (-1) ((-1) : Int32) := ⟨by decide, by decide⟩
  refine lv_icmp_ne (tgt := 19) hx hb dX3_changeLast_14 (by decide) (fun c_20 => ?_) (fun c_20 => ?_)
  · have fc_20 := neq_f c_20
    have b_21 : bd 0 11 x_19 := neX fc_20 bx_19 kb_m1 (by decide)
    refine lv_aload_n hx hb dX3_changeLast_19 rfl (lv_at hl 0 rfl) ?_
    refine lv_aload_n hx hb dX3_changeLast_20 rfl (lv_at hl 1 rfl) ?_
    refine lv_aload_n hx hb dX3_changeLast_21 rfl (lv_at hl 0 rfl) ?_
    refine g_getr (K := 122) (C := RX3) (T := TX3) (N := 6) hx hb hts (mc_ inX3) hown hK g ma0_ ka0_ (by decide) rfl 1 (by decide) rfl (hts _ (List.mem_cons_of_mem _ t_804)) (fun _ h9 => h9) rfl dX3_changeLast_22 (fun a_22 ma_22 ka_22 g => ?_)
    refine lv_iload_n hx hb dX3_changeLast_25 rfl (lv_at hl 3 rfl) ?_
    refine g_iald hx hb hK g ma_22 ka_22 (by decide) rfl (in_bd bx3_ (by decide)) dX3_changeLast_26 (fun x_23 bx_23 cx_23 => ?_)
    refine lv_aload_n hx hb dX3_changeLast_27 rfl (lv_at hl 0 rfl) ?_
    refine g_getk (C := RX3) (T := TX3) (N := 6) hx hb hts (mc_ inX3) hown hK g rfl 2 (by decide) rfl (hts _ (List.mem_cons_of_mem _ t_807)) (fun _ h9 => h9) 3 rfl dX3_changeLast_28 ?_
    refine lv_iload_n hx hb dX3_changeLast_31 rfl (lv_at hl 3 rfl) ?_
    refine g_iald hx hb hK g mm_ km_ (by decide) rfl (in_bd bx3_ (by decide)) dX3_changeLast_32 (fun x_24 bx_24 cx_24 => ?_)
    obtain rfl : x_19 = x_24 := el_same cx_19 cx_24 rfl
    have hm_25 : 0 ≤ (Q_.1 x3_.toNatClampNeg).toInt := by rw [← vx_19]; have h9_0 := bk_; unfold bd at h9_0; have h9_1 := b4_15; unfold bd at h9_1; have h9_2 := bn_; unfold bd at h9_2; have h9_3 := b0_14; unfold bd at h9_3; have h9_4 := bx2_; unfold bd at h9_4; have h9_5 := bx3_; unfold bd at h9_5; have h9_6 := b_21; unfold bd at h9_6; have h9_7 := bx_23; unfold bd at h9_7; have h9_8 := bx_24; unfold bd at h9_8; have h9_9 := b_2; unfold bd at h9_9; have h8_0 := kb_1; unfold bd at h8_0; have h8_1 := kb_m1; unfold bd at h8_1; omega
    have go_ := g
    refine g_callr (va_runV (As := [.ref x1_, .int x_23, .int x_19]) (rest := []) ⟨hx, hb, hml, hown, hts⟩ (r_X3_tellingOf_2 l dC dI L kd tys fr_3 H.size g.2.2.2.1 a0_ ma0_ ka0_ x1_ mx1_ kx1_ x_23 bx_23 x_19 b_21) (cwV 3 hts (gV_ t_1498 t_1500 t_53 t_196 t_1501) rfl rfl rfl (by decide +kernel) ⟨(Nat.le_of_ble_eq_true rfl), (Nat.le_of_ble_eq_true rfl)⟩) (pre3V g hK ma0_ ka0_ (by decide) (q := (RX3, TX3, 6)) rfl) rfl rfl hl.1 rfl (lv_room (Nat.le_of_ble_eq_true rfl)) dX3_changeLast_33 ⟨(Nat.le_of_ble_eq_true rfl), (Nat.le_of_ble_eq_true rfl)⟩) g hK (by decide) (by decide) (fx' := [(3, 1, a0_, .ref a_22), (3, 4, a0_, .int k_9), (3, 0, a0_, .int n_8), (3, 2, a0_, .ref m_), (3, 3, a0_, .ref p_)]) rfl (fun r_26 fr_26 H locs hp hMr_26 g => ?_)
    have hG_27 := isQ.frame hMr_26 go_.2.2.2.1 ma0_ ka0_ (by decide) (by decide) hQ_10
    have hG_28 := arP.frame hMr_26 go_.2.2.2.1 mp_ kp_ (by decide) (by decide) hG_6
    have hG_29 := QR.frame hMr_26 go_.2.2.2.1 ma0_ ka0_ (by decide) (by decide) hU_17
    obtain ⟨mr_26, kr_26⟩ := hp
    refine lv_astore (lv' := [(4, .ref r_26), (0, .ref a0_), (1, .ref x1_), (2, .int x2_), (3, .int x3_)]) hx hb dX3_changeLast_36 hl (by decide) rfl (fun ls hl => ?_)
    refine lv_aload hx hb dX3_changeLast_38 (lv_at hl 0 rfl) ?_
    refine g_geti (C := RX6) (T := TX6) (N := 13) hx hb hts (mc_ inX6) hown hK g mr_26 kr_26 (by decide) rfl 3 (by decide) rfl (hts _ (List.mem_cons_of_mem _ t_565)) (fun _ h9 => h9) rfl dX3_changeLast_40 (fun x_30 bx_30 g => ?_)
    refine lv_iconst (v := 1) hx hb dX3_changeLast_43 (by decide) ?_
    refine lv_isub hx hb dX3_changeLast_44 ?_
    refine lv_topi (fun y_31 ey_31 => ?_)
    have ty_31 := sub_bd ey_31 bx_30 kb_1 (by decide)
    have b_32 : bd (-1) 2 y_31 := sub_rg ty_31 bx_30 kb_1 (by decide)
    refine lv_istore (lv' := [(5, .int y_31), (4, .ref r_26), (0, .ref a0_), (1, .ref x1_), (2, .int x2_), (3, .int x3_)]) hx hb dX3_changeLast_45 hl (by decide) rfl (fun ls hl => ?_)
    have loop_33 : ∀ (n : Nat) (v47_5 : Int32), bd (-1) 2 v47_5 → (v47_5.toInt - (-1) < (n : Int)) → ∀ (f : Nat → va_E) (H : Heap) (locs : List Loc) (ls : Array Slot), G3 (dC, dI) L kd tys s f0 [(3, 0), (3, 4)] [103, 122, 123, 125] f H locs [(6, 3, r_26, .int x_30), (3, 1, a0_, .ref a_22), (3, 4, a0_, .int k_9), (3, 0, a0_, .int n_8), (3, 2, a0_, .ref m_), (3, 3, a0_, .ref p_)] → (∃ Q1 : RQ, isQ L kd f m_ A_ Q1 ∧ arP f p_ A_ ∧ QR L kd f0 f a0_ m_ A_ ∧ wQ Q1 n_8 k_9 ∧ n_8.toInt = x3_.toInt + 1 ∧ 0 ≤ (Q1.1 x3_.toNatClampNeg).toInt) → lv_has ls 7 [(5, .int v47_5), (4, .ref r_26), (0, .ref a0_), (1, .ref x1_), (2, .int x2_), (3, .int x3_)] → W p l e ({ frames := 2, cells := 0, slots := 0, locals := 48 } : Room) s m [.ref a0_, .ref x1_, .int x2_, .int x3_].toArray below meth c H locs 0 0 Q (F0 m 47 ls []) := by
      intro n47
      induction n47 with
      | zero =>
        intro v47_5 bv47_5 hm47 f H locs ls g  ⟨Q47, hQ47, hJ47, hU47, hw47, hn47, hm47⟩ hl
        exact absurd hm47 (by have h9_v47_5 := bv47_5; unfold bd at h9_v47_5; omega)
      | succ n47 ih47 =>
        intro v47_5 bv47_5 hm47 f H locs ls g  ⟨Q47, hQ47, hJ47, hU47, hw47, hn47, hm47⟩ hl
        refine lv_iload hx hb dX3_changeLast_47 (lv_at hl 0 rfl) ?_
        have kb_0 : bd 0 0 (0 : Int32) := ⟨by decide, by decide⟩
        refine lv_if_lt (tgt := 113) hx hb dX3_changeLast_49 (by decide) (fun c_34 => ?_) (fun c_34 => ?_)
        · have fc_34 := lt_f c_34
          have b_35 : bd (-1) (-1) v47_5 := ltL fc_34 bv47_5 kb_0 (by decide)
          refine lv_aload_n hx hb dX3_changeLast_113 rfl (lv_at hl 2 rfl) ?_
          refine g_getk (C := RX3) (T := TX3) (N := 6) hx hb hts (mc_ inX3) hown hK g rfl 1 (by decide) rfl (hts _ (List.mem_cons_of_mem _ t_804)) (fun _ h9 => h9) 1 rfl dX3_changeLast_114 ?_
          refine lv_iload_n hx hb dX3_changeLast_117 rfl (lv_at hl 5 rfl) ?_
          refine g_iald hx hb hK g ma_22 ka_22 (by decide) rfl (in_bd bx3_ (by decide)) dX3_changeLast_118 (fun x_36 bx_36 cx_36 => ?_)
          refine lv_iconst (v := 1) hx hb dX3_changeLast_119 (by decide) ?_
          refine lv_iadd hx hb dX3_changeLast_120 ?_
          refine lv_topi (fun y_37 ey_37 => ?_)
          have ty_37 := add_bd ey_37 bx_36 kb_1 (by decide)
          have b_38 : bd 1 3 y_37 := add_rg ty_37 bx_36 kb_1 (by decide)
          refine lv_aload_n hx hb dX3_changeLast_121 rfl (lv_at hl 2 rfl) ?_
          refine g_getk (C := RX3) (T := TX3) (N := 6) hx hb hts (mc_ inX3) hown hK g rfl 4 (by decide) rfl (hts _ (List.mem_cons_of_mem _ t_813)) (fun _ h9 => h9) 2 rfl dX3_changeLast_122 ?_
          refine lv_icmp_ge (tgt := 141) hx hb dX3_changeLast_125 (by decide) (fun c_39 => ?_) (fun c_39 => ?_)
          · have fc_39 := le_f c_39
            refine lv_aload_n hx hb dX3_changeLast_141 rfl (lv_at hl 3 rfl) ?_
            refine lv_iload_n hx hb dX3_changeLast_142 rfl (lv_at hl 4 rfl) ?_
            refine lv_aload_n hx hb dX3_changeLast_143 rfl (lv_at hl 2 rfl) ?_
            refine g_getk (C := RX3) (T := TX3) (N := 6) hx hb hts (mc_ inX3) hown hK g rfl 2 (by decide) rfl (hts _ (List.mem_cons_of_mem _ t_807)) (fun _ h9 => h9) 4 rfl dX3_changeLast_144 ?_
            refine lv_iload_n hx hb dX3_changeLast_147 rfl (lv_at hl 5 rfl) ?_
            refine g_iald hx hb hK g mm_ km_ (by decide) rfl (in_bd bx3_ (by decide)) dX3_changeLast_148 (fun x_40 bx_40 cx_40 => ?_)
            have vx_40 : x_40 = Q47.1 x3_.toNatClampNeg := cx_40.trans (hQ47.2.2.2.2.1 _)
            refine lv_iconst (v := 1) hx hb dX3_changeLast_149 (by decide) ?_
            refine lv_iadd hx hb dX3_changeLast_150 ?_
            refine lv_topi (fun y_41 ey_41 => ?_)
            have ty_41 := add_bd ey_41 bx_40 kb_1 (by decide)
            have b_42 : bd 0 12 y_41 := add_rg ty_41 bx_40 kb_1 (by decide)
            have go_ := g
            refine g_calli (va_runV (As := [.int x2_, .int y_41]) (rest := []) ⟨hx, hb, hml, hown, hts⟩ (r_X7_hasMember l dC dI L kd tys f H.size g.2.2.2.1 x1_ mx1_ kx1_ x2_ y_41) (cwV 2 hts (gV_ t_1497 t_1448 t_1449 t_191 t_1450) rfl rfl rfl (by decide +kernel) ⟨(Nat.le_of_ble_eq_true rfl), (Nat.le_of_ble_eq_true rfl)⟩) (pre3V g hK mx1_ kx1_ (by decide) (q := (RX7, TX7, 19)) rfl) rfl rfl hl.1 rfl (lv_room (Nat.le_of_ble_eq_true rfl)) dX3_changeLast_151 ⟨(Nat.le_of_ble_eq_true rfl), (Nat.le_of_ble_eq_true rfl)⟩) g hK (by decide) (by decide) (fx' := [(6, 3, r_26, .int x_30), (3, 1, a0_, .ref a_22), (3, 4, a0_, .int k_9), (3, 0, a0_, .int n_8), (3, 2, a0_, .ref m_), (3, 3, a0_, .ref p_)]) rfl (fun r_43 fr_43 H locs hp hMr_43 g => ?_)
            rcases hp with ⟨h_44, -⟩ | ⟨h_45, h_46, h_47, x_48, h_49, hF_50⟩
            · have hG_51 := isQ.frame hMr_43 go_.2.2.2.1 ma0_ ka0_ (by decide) (by decide) hQ47
              have hG_52 := arP.frame hMr_43 go_.2.2.2.1 mp_ kp_ (by decide) (by decide) hJ47
              have hG_53 := QR.frame hMr_43 go_.2.2.2.1 ma0_ ka0_ (by decide) (by decide) hU47
              obtain rfl : r_43 = 0 := h_44
              refine lv_if_eq (tgt := 177) hx hb dX3_changeLast_154 (by decide) (fun c_ => ?_) (fun c_ => absurd (by decide) c_)
              refine lv_aload_n hx hb dX3_changeLast_177 rfl (lv_at hl 2 rfl) ?_
              refine g_getk (C := RX3) (T := TX3) (N := 6) hx hb hts (mc_ inX3) hown hK g rfl 4 (by decide) rfl (hts _ (List.mem_cons_of_mem _ t_813)) (fun _ h9 => h9) 2 rfl dX3_changeLast_178 ?_
              refine lv_iconst (v := 3) hx hb dX3_changeLast_181 (by decide) ?_
              have kb_3 : bd 3 3 (3 : Int32) := ⟨by decide, by decide⟩
              refine lv_icmp_ge (tgt := 197) hx hb dX3_changeLast_182 (by decide) (fun c_54 => ?_) (fun c_54 => ?_)
              · have fc_54 := le_f c_54
                have b_55 : bd 3 3 k_9 := leR fc_54 kb_3 b4_15 (by decide)
                refine lv_iconst (v := 0) hx hb dX3_changeLast_197 (by decide) ?_
                subst hQ
                exact W.zret (v := 0) hx hb hr (nar_z (bd_sub kb_0 (by decide) : bd 0 1 _).1 (bd_sub kb_0 (by decide) : bd 0 1 _).2) (fun t ht hW => ⟨⟨_, _, rfl, ⟨⟨Q47, n_8, k_9, hG_51, hG_53, (fx_at g (i := 3) rfl).2.2.2, (fx_at g (i := 2) rfl).2.2.2, b0_14, (bd_sub b_55 (by decide)), ⟨hw47, (by have h9_0 := bk_; unfold bd at h9_0; have h9_1 := b_55; unfold bd at h9_1; have h9_2 := bn_; unfold bd at h9_2; have h9_3 := b0_14; unfold bd at h9_3; have h9_4 := b_35; unfold bd at h9_4; have h9_5 := bx2_; unfold bd at h9_5; have h9_6 := bx3_; unfold bd at h9_6; have h9_7 := b_21; unfold bd at h9_7; have h9_8 := bx_23; unfold bd at h9_8; have h9_9 := bx_24; unfold bd at h9_9; have h9_10 := bx_30; unfold bd at h9_10; have h9_11 := bx_36; unfold bd at h9_11; have h9_12 := bx_40; unfold bd at h9_12; have h9_13 := b_2; unfold bd at h9_13; have h9_14 := b_32; unfold bd at h9_14; have h9_15 := b_38; unfold bd at h9_15; have h9_16 := b_42; unfold bd at h9_16; have h8_0 := kb_0; unfold bd at h8_0; have h8_1 := kb_1; unfold bd at h8_1; have h8_2 := kb_3; unfold bd at h8_2; have h8_3 := kb_m1; unfold bd at h8_3; omega)⟩⟩, (bd_sub kb_0 (by decide)), trivial⟩, q3_of g hK ht hW⟩, g.2.2.1.F ht⟩) g.2.2.1.2.2 dX3_changeLast_198
              · have fc_54 := nle_f c_54
                have b_56 : bd 0 2 k_9 := ltL fc_54 b4_15 kb_3 (by decide)
                refine lv_aload_n hx hb dX3_changeLast_185 rfl (lv_at hl 2 rfl) ?_
                refine lv_iload_n hx hb dX3_changeLast_186 rfl (lv_at hl 5 rfl) ?_
                have go_ := g
                refine g_callv (va_runV (As := [.int x3_]) (rest := []) ⟨hx, hb, hml, hown, hts⟩ (r_X3_shortenQ l dC dI L kd tys fr_43 H.size g.2.2.2.1 a0_ ma0_ ka0_ p_ mp_ kp_ m_ mm_ km_ A_ Q47 n_8 b0_14 k_9 (bd_sub b_56 (by decide)) hG_52 hG_51 hw47 x3_ (bd_sub bx3_ (by decide)) (by have h9_0 := bk_; unfold bd at h9_0; have h9_1 := b_56; unfold bd at h9_1; have h9_2 := bn_; unfold bd at h9_2; have h9_3 := b0_14; unfold bd at h9_3; have h9_4 := b_35; unfold bd at h9_4; have h9_5 := bx2_; unfold bd at h9_5; have h9_6 := bx3_; unfold bd at h9_6; have h9_7 := b_21; unfold bd at h9_7; have h9_8 := bx_23; unfold bd at h9_8; have h9_9 := bx_24; unfold bd at h9_9; have h9_10 := bx_30; unfold bd at h9_10; have h9_11 := bx_36; unfold bd at h9_11; have h9_12 := bx_40; unfold bd at h9_12; have h9_13 := b_2; unfold bd at h9_13; have h9_14 := b_32; unfold bd at h9_14; have h9_15 := b_38; unfold bd at h9_15; have h9_16 := b_42; unfold bd at h9_16; have h8_0 := kb_0; unfold bd at h8_0; have h8_1 := kb_1; unfold bd at h8_1; have h8_2 := kb_3; unfold bd at h8_2; have h8_3 := kb_m1; unfold bd at h8_3; omega) (g.fcts [3, 2, 4, 5] rfl)) (cwV 1 hts (gV_ t_1719 t_1721 t_85 t_196 t_1722) rfl rfl rfl (by decide +kernel) ⟨(Nat.le_of_ble_eq_true rfl), (Nat.le_of_ble_eq_true rfl)⟩) (pre3V g hK ma0_ ka0_ (by decide) (q := (RX3, TX3, 6)) rfl) rfl rfl hl.1 rfl (lv_room (Nat.le_of_ble_eq_true rfl)) dX3_changeLast_187 ⟨(Nat.le_of_ble_eq_true rfl), (Nat.le_of_ble_eq_true rfl)⟩) g hK (by decide) (by decide) (fx' := [(6, 3, r_26, .int x_30), (3, 1, a0_, .ref a_22), (3, 2, a0_, .ref m_), (3, 3, a0_, .ref p_)]) rfl (fun fr_57 H locs hp hMr_57 g => ?_)
                obtain ⟨hx_58, -⟩ := hp
                have hG_59 := isQ.frame hMr_57 go_.2.2.2.1 ma0_ ka0_ (by decide) (by decide) hG_51
                have hG_60 := arP.frame hMr_57 go_.2.2.2.1 mp_ kp_ (by decide) (by decide) hG_52
                obtain ⟨Q_61, n_62, k_63, hQ_64, hU_65, h0_66, h4_67, b0_68, b4_69, hP_70⟩ := hx_58
                have hU_71 := QR.tr hG_53 hU_65
                have g := G3.add g ma0_ ka0_ (by decide) h0_66
                have g := G3.add g ma0_ ka0_ (by decide) h4_67
                have hz_72q : Q47 = Q_61 := hP_70.2.1.symm
                subst hz_72q
                refine lv_aload_n hx hb dX3_changeLast_190 rfl (lv_at hl 2 rfl) ?_
                refine lv_iload_n hx hb dX3_changeLast_191 rfl (lv_at hl 4 rfl) ?_
                have go_ := g
                refine g_callv (va_runV (As := [.int x2_]) (rest := []) ⟨hx, hb, hml, hown, hts⟩ (r_X3_addMakeQ l dC dI L kd tys fr_57 H.size g.2.2.2.1 a0_ ma0_ ka0_ p_ mp_ kp_ m_ mm_ km_ A_ Q47 n_62 b0_68 k_63 b4_69 hG_60 hQ_64 hP_70.1 x2_ bx2_ (g.fcts [1, 0, 4, 5] rfl)) (cwV 1 hts (gV_ t_1729 t_1482 t_1483 t_196 t_1484) rfl rfl rfl (by decide +kernel) ⟨(Nat.le_of_ble_eq_true rfl), (Nat.le_of_ble_eq_true rfl)⟩) (pre3V g hK ma0_ ka0_ (by decide) (q := (RX3, TX3, 6)) rfl) rfl rfl hl.1 rfl (lv_room (Nat.le_of_ble_eq_true rfl)) dX3_changeLast_192 ⟨(Nat.le_of_ble_eq_true rfl), (Nat.le_of_ble_eq_true rfl)⟩) g hK (by decide) (by decide) (fx' := [(6, 3, r_26, .int x_30), (3, 1, a0_, .ref a_22), (3, 2, a0_, .ref m_), (3, 3, a0_, .ref p_)]) rfl (fun fr_73 H locs hp hMr_73 g => ?_)
                obtain ⟨hx_74, -⟩ := hp
                have hG_75 := arP.frame hMr_73 go_.2.2.2.1 mp_ kp_ (by decide) (by decide) hG_60
                obtain ⟨Q_76, n_77, k_78, hQ_79, hU_80, h0_81, h4_82, b0_83, b4_84, hP_85⟩ := hx_74
                have hU_86 := QR.tr hU_71 hU_80
                have g := G3.add g ma0_ ka0_ (by decide) h0_81
                have g := G3.add g ma0_ ka0_ (by decide) h4_82
                have hz_87 := hP_85.2 (by have h9_0 := bk_; unfold bd at h9_0; have h9_1 := b4_69; unfold bd at h9_1; have h9_2 := b4_84; unfold bd at h9_2; have h9_3 := b_56; unfold bd at h9_3; have h9_4 := bn_; unfold bd at h9_4; have h9_5 := b0_68; unfold bd at h9_5; have h9_6 := b0_83; unfold bd at h9_6; have h9_7 := b0_14; unfold bd at h9_7; have h9_8 := b_35; unfold bd at h9_8; have h9_9 := bx2_; unfold bd at h9_9; have h9_10 := bx3_; unfold bd at h9_10; have h9_11 := b_21; unfold bd at h9_11; have h9_12 := bx_23; unfold bd at h9_12; have h9_13 := bx_24; unfold bd at h9_13; have h9_14 := bx_30; unfold bd at h9_14; have h9_15 := bx_36; unfold bd at h9_15; have h9_16 := bx_40; unfold bd at h9_16; have h9_17 := b_2; unfold bd at h9_17; have h9_18 := b_32; unfold bd at h9_18; have h9_19 := b_38; unfold bd at h9_19; have h9_20 := b_42; unfold bd at h9_20; have h8_0 := kb_0; unfold bd at h8_0; have h8_1 := kb_1; unfold bd at h8_1; have h8_2 := kb_3; unfold bd at h8_2; have h8_3 := kb_m1; unfold bd at h8_3; omega) (by have h9_0 := bk_; unfold bd at h9_0; have h9_1 := b4_69; unfold bd at h9_1; have h9_2 := b4_84; unfold bd at h9_2; have h9_3 := b_56; unfold bd at h9_3; have h9_4 := bn_; unfold bd at h9_4; have h9_5 := b0_68; unfold bd at h9_5; have h9_6 := b0_83; unfold bd at h9_6; have h9_7 := b0_14; unfold bd at h9_7; have h9_8 := b_35; unfold bd at h9_8; have h9_9 := bx2_; unfold bd at h9_9; have h9_10 := bx3_; unfold bd at h9_10; have h9_11 := b_21; unfold bd at h9_11; have h9_12 := bx_23; unfold bd at h9_12; have h9_13 := bx_24; unfold bd at h9_13; have h9_14 := bx_30; unfold bd at h9_14; have h9_15 := bx_36; unfold bd at h9_15; have h9_16 := bx_40; unfold bd at h9_16; have h9_17 := b_2; unfold bd at h9_17; have h9_18 := b_32; unfold bd at h9_18; have h9_19 := b_38; unfold bd at h9_19; have h9_20 := b_42; unfold bd at h9_20; have h8_0 := kb_0; unfold bd at h8_0; have h8_1 := kb_1; unfold bd at h8_1; have h8_2 := kb_3; unfold bd at h8_2; have h8_3 := kb_m1; unfold bd at h8_3; omega)
                refine lv_iconst (v := 1) hx hb dX3_changeLast_195 (by decide) ?_
                subst hQ
                exact W.zret (v := 1) hx hb hr (nar_z (bd_sub kb_1 (by decide) : bd 0 1 _).1 (bd_sub kb_1 (by decide) : bd 0 1 _).2) (fun t ht hW => ⟨⟨_, _, rfl, ⟨⟨Q_76, n_77, k_78, hQ_79, hU_86, (fx_at g (i := 1) rfl).2.2.2, (fx_at g (i := 0) rfl).2.2.2, b0_83, b4_84, ⟨hP_85.1, (by have h9_0 := bk_; unfold bd at h9_0; have h9_1 := b4_69; unfold bd at h9_1; have h9_2 := b4_84; unfold bd at h9_2; have h9_3 := b_56; unfold bd at h9_3; have h9_4 := bn_; unfold bd at h9_4; have h9_5 := b0_68; unfold bd at h9_5; have h9_6 := b0_83; unfold bd at h9_6; have h9_7 := b0_14; unfold bd at h9_7; have h9_8 := b_35; unfold bd at h9_8; have h9_9 := bx2_; unfold bd at h9_9; have h9_10 := bx3_; unfold bd at h9_10; have h9_11 := b_21; unfold bd at h9_11; have h9_12 := bx_23; unfold bd at h9_12; have h9_13 := bx_24; unfold bd at h9_13; have h9_14 := bx_30; unfold bd at h9_14; have h9_15 := bx_36; unfold bd at h9_15; have h9_16 := bx_40; unfold bd at h9_16; have h9_17 := b_2; unfold bd at h9_17; have h9_18 := b_32; unfold bd at h9_18; have h9_19 := b_38; unfold bd at h9_19; have h9_20 := b_42; unfold bd at h9_20; have h8_0 := kb_0; unfold bd at h8_0; have h8_1 := kb_1; unfold bd at h8_1; have h8_2 := kb_3; unfold bd at h8_2; have h8_3 := kb_m1; unfold bd at h8_3; omega)⟩⟩, (bd_sub kb_1 (by decide)), trivial⟩, q3_of g hK ht hW⟩, g.2.2.1.F ht⟩) g.2.2.1.2.2 dX3_changeLast_196
            · have hG_88 := isQ.frame hMr_43 go_.2.2.2.1 ma0_ ka0_ (by decide) (by decide) hQ47
              have hG_89 := arP.frame hMr_43 go_.2.2.2.1 mp_ kp_ (by decide) (by decide) hJ47
              have hG_90 := QR.frame hMr_43 go_.2.2.2.1 ma0_ ka0_ (by decide) (by decide) hU47
              obtain rfl : r_43 = 1 := h_45
              have b_91 : bd 0 11 y_41 := eqX rfl b_42 h_47 (by decide)
              have b_92 : bd (-1) 10 x_40 := add_inv ty_41 b_91 bx_40 kb_1 (by decide)
              have g := g.more hF_50
              refine lv_if_eq (tgt := 177) hx hb dX3_changeLast_154 (by decide) (fun c_ => absurd c_ (by decide)) (fun c_ => ?_)
              refine lv_aload_n hx hb dX3_changeLast_157 rfl (lv_at hl 2 rfl) ?_
              refine g_getk (C := RX3) (T := TX3) (N := 6) hx hb hts (mc_ inX3) hown hK g rfl 1 (by decide) rfl (hts _ (List.mem_cons_of_mem _ t_804)) (fun _ h9 => h9) 2 rfl dX3_changeLast_158 ?_
              refine lv_iload_n hx hb dX3_changeLast_161 rfl (lv_at hl 5 rfl) ?_
              refine lv_iconst (v := 0) hx hb dX3_changeLast_162 (by decide) ?_
              have go_ := g
              refine g_iast hx hb hK g ma_22 ka_22 (by decide) rfl (in_bd bx3_ (by decide)) (bd_sub kb_0 (by decide)) (by decide) dX3_changeLast_163 (fun f H locs hM_93 g => ?_)
              have hG_94 := isQ.frame hM_93 go_.2.2.2.1 ma0_ ka0_ (by decide) (by decide) hG_88
              have hG_95 := arP.frame hM_93 go_.2.2.2.1 mp_ kp_ (by decide) (by decide) hG_89
              have hG_96 := QR.frame hM_93 go_.2.2.2.1 ma0_ ka0_ (by decide) (by decide) hG_90
              refine lv_aload_n hx hb dX3_changeLast_164 rfl (lv_at hl 2 rfl) ?_
              refine g_getk (C := RX3) (T := TX3) (N := 6) hx hb hts (mc_ inX3) hown hK g rfl 2 (by decide) rfl (hts _ (List.mem_cons_of_mem _ t_807)) (fun _ h9 => h9) 5 rfl dX3_changeLast_165 ?_
              refine lv_iload_n hx hb dX3_changeLast_168 rfl (lv_at hl 5 rfl) ?_
              refine lv_dup2_11 hx hb dX3_changeLast_169 rfl rfl ?_
              refine g_iald hx hb hK g mm_ km_ (by decide) rfl (in_bd bx3_ (by decide)) dX3_changeLast_170 (fun x_97 bx_97 cx_97 => ?_)
              obtain rfl : x_40 = x_97 := el_same cx_40 cx_97 ((arr_eq hM_93 mm_ km_ (by decide) rfl).trans (arr_eq hMr_43 mm_ km_ (by decide) rfl))
              refine lv_iconst (v := 1) hx hb dX3_changeLast_171 (by decide) ?_
              refine lv_iadd hx hb dX3_changeLast_172 ?_
              refine lv_topi (fun y_98 ey_98 => ?_)
              obtain rfl : y_41 = y_98 := ey_41.trans ey_98.symm
              have go_ := g
              refine g_iastX hx hb hK g mm_ km_ (by decide) rfl (in_bd bx3_ (by decide)) (bd_sub b_91 (by decide)) (by decide) dX3_changeLast_173 (fun f H locs hM_99 u_101 g => ?_)
              have hG_100 := arP.frame hM_99 go_.2.2.2.1 mp_ kp_ (by decide) (by decide) hG_95
              have hQ_102 := isQ.um hG_94 u_101
              have hU_103 := QR.mem hG_96 u_101.1 km_
              have hw_104 : wQ (RQ.um Q47 x3_.toNatClampNeg y_41) n_8 k_9 := wQ.mem hw47 hm47 (by have h9_0 := bk_; unfold bd at h9_0; have h9_1 := b4_15; unfold bd at h9_1; have h9_2 := bn_; unfold bd at h9_2; have h9_3 := b0_14; unfold bd at h9_3; have h9_4 := b_35; unfold bd at h9_4; have h9_5 := bx2_; unfold bd at h9_5; have h9_6 := bx3_; unfold bd at h9_6; have h9_7 := b_21; unfold bd at h9_7; have h9_8 := bx_23; unfold bd at h9_8; have h9_9 := bx_24; unfold bd at h9_9; have h9_10 := bx_30; unfold bd at h9_10; have h9_11 := bx_36; unfold bd at h9_11; have h9_12 := b_92; unfold bd at h9_12; have h9_13 := h_49; unfold bd at h9_13; have h9_14 := bx_97; unfold bd at h9_14; have h9_15 := b_2; unfold bd at h9_15; have h9_16 := b_32; unfold bd at h9_16; have h9_17 := b_38; unfold bd at h9_17; have h9_18 := b_91; unfold bd at h9_18; have h8_0 := kb_0; unfold bd at h8_0; have h8_1 := kb_1; unfold bd at h8_1; have h8_2 := kb_m1; unfold bd at h8_2; omega)
              have hm_105 : 0 ≤ ((RQ.um Q47 x3_.toNatClampNeg y_41).1 x3_.toNatClampNeg).toInt := by show 0 ≤ (if x3_.toNatClampNeg = x3_.toNatClampNeg then y_41 else _).toInt; rw [if_pos rfl]; have h9_0 := bk_; unfold bd at h9_0; have h9_1 := b4_15; unfold bd at h9_1; have h9_2 := bn_; unfold bd at h9_2; have h9_3 := b0_14; unfold bd at h9_3; have h9_4 := b_35; unfold bd at h9_4; have h9_5 := bx2_; unfold bd at h9_5; have h9_6 := bx3_; unfold bd at h9_6; have h9_7 := b_21; unfold bd at h9_7; have h9_8 := bx_23; unfold bd at h9_8; have h9_9 := bx_24; unfold bd at h9_9; have h9_10 := bx_30; unfold bd at h9_10; have h9_11 := bx_36; unfold bd at h9_11; have h9_12 := b_92; unfold bd at h9_12; have h9_13 := h_49; unfold bd at h9_13; have h9_14 := bx_97; unfold bd at h9_14; have h9_15 := b_2; unfold bd at h9_15; have h9_16 := b_32; unfold bd at h9_16; have h9_17 := b_38; unfold bd at h9_17; have h9_18 := b_91; unfold bd at h9_18; have h8_0 := kb_0; unfold bd at h8_0; have h8_1 := kb_1; unfold bd at h8_1; have h8_2 := kb_m1; unfold bd at h8_2; omega
              refine lv_goto (tgt := 199) hx hb dX3_changeLast_174 (by decide) ?_
              refine lv_aload_n hx hb dX3_changeLast_199 rfl (lv_at hl 2 rfl) ?_
              refine lv_aload_n hx hb dX3_changeLast_200 rfl (lv_at hl 3 rfl) ?_
              refine lv_iload_n hx hb dX3_changeLast_201 rfl (lv_at hl 5 rfl) ?_
              refine lv_iconst (v := 0) hx hb dX3_changeLast_202 (by decide) ?_
              have go_ := g
              refine g_callv (va_runV (As := [.ref x1_, .int x3_, .int 0]) (rest := []) ⟨hx, hb, hml, hown, hts⟩ (r_X3_lowerArgumentsQ l dC dI L kd tys f H.size g.2.2.2.1 a0_ ma0_ ka0_ p_ mp_ kp_ m_ mm_ km_ A_ (RQ.um Q47 x3_.toNatClampNeg y_41) n_8 b0_14 k_9 b4_15 hG_100 hQ_102 hw_104 x1_ mx1_ kx1_ x3_ bx3_ (0 : Int32) (bd_sub kb_0 (by decide)) hm_105 (g.fcts [4, 3, 5, 6] rfl)) (cwV 3 hts (gV_ t_1724 t_1726 t_86 t_196 t_1727) rfl rfl rfl (by decide +kernel) ⟨(Nat.le_of_ble_eq_true rfl), (Nat.le_of_ble_eq_true rfl)⟩) (pre3V g hK ma0_ ka0_ (by decide) (q := (RX3, TX3, 6)) rfl) rfl rfl hl.1 rfl (lv_room (Nat.le_of_ble_eq_true rfl)) dX3_changeLast_203 ⟨(Nat.le_of_ble_eq_true rfl), (Nat.le_of_ble_eq_true rfl)⟩) g hK (by decide) (by decide) (fx' := [(7, 1, x1_, .int x_48), (6, 3, r_26, .int x_30), (3, 1, a0_, .ref a_22), (3, 4, a0_, .int k_9), (3, 0, a0_, .int n_8), (3, 2, a0_, .ref m_), (3, 3, a0_, .ref p_)]) rfl (fun fr_106 H locs hp hMr_106 g => ?_)
              obtain ⟨hx_107, -⟩ := hp
              have hG_108 := arP.frame hMr_106 go_.2.2.2.1 mp_ kp_ (by decide) (by decide) hG_100
              obtain ⟨Q_109, n_110, k_111, hQ_112, hU_113, h0_114, h4_115, b0_116, b4_117, hP_118⟩ := hx_107
              have hU_119 := QR.tr hU_103 hU_113
              obtain rfl : n_8 = n_110 := by have h9 := (fx_at g (i := 4) rfl).2.2.2.symm.trans h0_114; cases h9; rfl
              obtain rfl : k_9 = k_111 := by have h9 := (fx_at g (i := 3) rfl).2.2.2.symm.trans h4_115; cases h9; rfl
              have hz_120 := hP_118.2.1
              refine lv_iconst (v := 1) hx hb dX3_changeLast_206 (by decide) ?_
              subst hQ
              exact W.zret (v := 1) hx hb hr (nar_z (bd_sub kb_1 (by decide) : bd 0 1 _).1 (bd_sub kb_1 (by decide) : bd 0 1 _).2) (fun t ht hW => ⟨⟨_, _, rfl, ⟨⟨Q_109, n_8, k_9, hQ_112, hU_119, (fx_at g (i := 4) rfl).2.2.2, (fx_at g (i := 3) rfl).2.2.2, b0_14, b4_15, ⟨hP_118.1, (by have h9_0 := bk_; unfold bd at h9_0; have h9_1 := b4_15; unfold bd at h9_1; have h9_2 := bn_; unfold bd at h9_2; have h9_3 := b0_14; unfold bd at h9_3; have h9_4 := b_35; unfold bd at h9_4; have h9_5 := bx2_; unfold bd at h9_5; have h9_6 := bx3_; unfold bd at h9_6; have h9_7 := b_21; unfold bd at h9_7; have h9_8 := bx_23; unfold bd at h9_8; have h9_9 := bx_24; unfold bd at h9_9; have h9_10 := bx_30; unfold bd at h9_10; have h9_11 := bx_36; unfold bd at h9_11; have h9_12 := b_92; unfold bd at h9_12; have h9_13 := h_49; unfold bd at h9_13; have h9_14 := bx_97; unfold bd at h9_14; have h9_15 := b_2; unfold bd at h9_15; have h9_16 := b_32; unfold bd at h9_16; have h9_17 := b_38; unfold bd at h9_17; have h9_18 := b_91; unfold bd at h9_18; have h8_0 := kb_0; unfold bd at h8_0; have h8_1 := kb_1; unfold bd at h8_1; have h8_2 := kb_m1; unfold bd at h8_2; omega)⟩⟩, (bd_sub kb_1 (by decide)), trivial⟩, q3_of g hK ht hW⟩, g.2.2.1.F ht⟩) g.2.2.1.2.2 dX3_changeLast_207
          · have fc_39 := nle_f c_39
            have b_121 : bd 1 2 y_37 := ltL fc_39 b_38 b4_15 (by decide)
            have b_122 : bd 0 1 x_36 := add_inv ty_37 b_121 bx_36 kb_1 (by decide)
            have b_123 : bd 2 3 k_9 := ltR fc_39 b_38 b4_15 (by decide)
            refine lv_aload_n hx hb dX3_changeLast_128 rfl (lv_at hl 2 rfl) ?_
            refine g_getk (C := RX3) (T := TX3) (N := 6) hx hb hts (mc_ inX3) hown hK g rfl 1 (by decide) rfl (hts _ (List.mem_cons_of_mem _ t_804)) (fun _ h9 => h9) 1 rfl dX3_changeLast_129 ?_
            refine lv_iload_n hx hb dX3_changeLast_132 rfl (lv_at hl 5 rfl) ?_
            refine lv_dup2_11 hx hb dX3_changeLast_133 rfl rfl ?_
            refine g_iald hx hb hK g ma_22 ka_22 (by decide) rfl (in_bd bx3_ (by decide)) dX3_changeLast_134 (fun x_124 bx_124 cx_124 => ?_)
            obtain rfl : x_36 = x_124 := el_same cx_36 cx_124 rfl
            refine lv_iconst (v := 1) hx hb dX3_changeLast_135 (by decide) ?_
            refine lv_iadd hx hb dX3_changeLast_136 ?_
            refine lv_topi (fun y_125 ey_125 => ?_)
            obtain rfl : y_37 = y_125 := ey_37.trans ey_125.symm
            have go_ := g
            refine g_iast hx hb hK g ma_22 ka_22 (by decide) rfl (in_bd bx3_ (by decide)) (bd_sub b_121 (by decide)) (by decide) dX3_changeLast_137 (fun f H locs hM_126 g => ?_)
            have hG_127 := isQ.frame hM_126 go_.2.2.2.1 ma0_ ka0_ (by decide) (by decide) hQ47
            have hG_128 := arP.frame hM_126 go_.2.2.2.1 mp_ kp_ (by decide) (by decide) hJ47
            have hG_129 := QR.frame hM_126 go_.2.2.2.1 ma0_ ka0_ (by decide) (by decide) hU47
            refine lv_goto (tgt := 199) hx hb dX3_changeLast_138 (by decide) ?_
            refine lv_aload_n hx hb dX3_changeLast_199 rfl (lv_at hl 2 rfl) ?_
            refine lv_aload_n hx hb dX3_changeLast_200 rfl (lv_at hl 3 rfl) ?_
            refine lv_iload_n hx hb dX3_changeLast_201 rfl (lv_at hl 5 rfl) ?_
            refine lv_iconst (v := 0) hx hb dX3_changeLast_202 (by decide) ?_
            have go_ := g
            refine g_callv (va_runV (As := [.ref x1_, .int x3_, .int 0]) (rest := []) ⟨hx, hb, hml, hown, hts⟩ (r_X3_lowerArgumentsQ l dC dI L kd tys f H.size g.2.2.2.1 a0_ ma0_ ka0_ p_ mp_ kp_ m_ mm_ km_ A_ Q47 n_8 b0_14 k_9 (bd_sub b_123 (by decide)) hG_128 hG_127 hw47 x1_ mx1_ kx1_ x3_ bx3_ (0 : Int32) (bd_sub kb_0 (by decide)) hm47 (g.fcts [3, 2, 4, 5] rfl)) (cwV 3 hts (gV_ t_1724 t_1726 t_86 t_196 t_1727) rfl rfl rfl (by decide +kernel) ⟨(Nat.le_of_ble_eq_true rfl), (Nat.le_of_ble_eq_true rfl)⟩) (pre3V g hK ma0_ ka0_ (by decide) (q := (RX3, TX3, 6)) rfl) rfl rfl hl.1 rfl (lv_room (Nat.le_of_ble_eq_true rfl)) dX3_changeLast_203 ⟨(Nat.le_of_ble_eq_true rfl), (Nat.le_of_ble_eq_true rfl)⟩) g hK (by decide) (by decide) (fx' := [(6, 3, r_26, .int x_30), (3, 1, a0_, .ref a_22), (3, 4, a0_, .int k_9), (3, 0, a0_, .int n_8), (3, 2, a0_, .ref m_), (3, 3, a0_, .ref p_)]) rfl (fun fr_130 H locs hp hMr_130 g => ?_)
            obtain ⟨hx_131, -⟩ := hp
            have hG_132 := arP.frame hMr_130 go_.2.2.2.1 mp_ kp_ (by decide) (by decide) hG_128
            obtain ⟨Q_133, n_134, k_135, hQ_136, hU_137, h0_138, h4_139, b0_140, b4_141, hP_142⟩ := hx_131
            have hU_143 := QR.tr hG_129 hU_137
            obtain rfl : n_8 = n_134 := by have h9 := (fx_at g (i := 3) rfl).2.2.2.symm.trans h0_138; cases h9; rfl
            obtain rfl : k_9 = k_135 := by have h9 := (fx_at g (i := 2) rfl).2.2.2.symm.trans h4_139; cases h9; rfl
            have hz_144 := hP_142.2.1
            refine lv_iconst (v := 1) hx hb dX3_changeLast_206 (by decide) ?_
            subst hQ
            exact W.zret (v := 1) hx hb hr (nar_z (bd_sub kb_1 (by decide) : bd 0 1 _).1 (bd_sub kb_1 (by decide) : bd 0 1 _).2) (fun t ht hW => ⟨⟨_, _, rfl, ⟨⟨Q_133, n_8, k_9, hQ_136, hU_143, (fx_at g (i := 3) rfl).2.2.2, (fx_at g (i := 2) rfl).2.2.2, b0_14, (bd_sub b_123 (by decide)), ⟨hP_142.1, (by have h9_0 := bk_; unfold bd at h9_0; have h9_1 := b_123; unfold bd at h9_1; have h9_2 := bn_; unfold bd at h9_2; have h9_3 := b0_14; unfold bd at h9_3; have h9_4 := b_35; unfold bd at h9_4; have h9_5 := bx2_; unfold bd at h9_5; have h9_6 := bx3_; unfold bd at h9_6; have h9_7 := bx_124; unfold bd at h9_7; have h9_8 := b_21; unfold bd at h9_8; have h9_9 := bx_23; unfold bd at h9_9; have h9_10 := bx_24; unfold bd at h9_10; have h9_11 := bx_30; unfold bd at h9_11; have h9_12 := b_122; unfold bd at h9_12; have h9_13 := b_2; unfold bd at h9_13; have h9_14 := b_32; unfold bd at h9_14; have h9_15 := b_121; unfold bd at h9_15; have h8_0 := kb_0; unfold bd at h8_0; have h8_1 := kb_1; unfold bd at h8_1; have h8_2 := kb_m1; unfold bd at h8_2; omega)⟩⟩, (bd_sub kb_1 (by decide)), trivial⟩, q3_of g hK ht hW⟩, g.2.2.1.F ht⟩) g.2.2.1.2.2 dX3_changeLast_207
        · have fc_34 := nlt_f c_34
          have b_145 : bd 0 2 v47_5 := leR fc_34 kb_0 bv47_5 (by decide)
          refine lv_aload hx hb dX3_changeLast_52 (lv_at hl 1 rfl) ?_
          refine lv_iload hx hb dX3_changeLast_54 (lv_at hl 0 rfl) ?_
          refine lv_aload_n hx hb dX3_changeLast_56 rfl (lv_at hl 2 rfl) ?_
          refine g_getk (C := RX3) (T := TX3) (N := 6) hx hb hts (mc_ inX3) hown hK g rfl 3 (by decide) rfl (hts _ (List.mem_cons_of_mem _ t_810)) (fun _ h9 => h9) 5 rfl dX3_changeLast_57 ?_
          refine lv_iload_n hx hb dX3_changeLast_60 rfl (lv_at hl 5 rfl) ?_
          refine g_aaldX hx hb hK g mp_ kp_ (by decide) rfl (by decide) (in_bd bx3_ (by decide)) dX3_changeLast_61 (fun a_146 ea_146 ma_146 ua_146 wa_146 => ?_)
          have ka_146 : kd a_146 = 103 := by omega
          have lta_146 : x3_.toNatClampNeg < 10 := in_toNat (in_bd bx3_ (by decide))
          have qa_146 : a_146 = A_ x3_.toNatClampNeg := ea_146.trans (hJ47 _ lta_146)
          refine lv_iload hx hb dX3_changeLast_62 (lv_at hl 0 rfl) ?_
          refine g_iald hx hb hK g ma_146 ka_146 (by decide) rfl (in_bd b_145 (by decide)) dX3_changeLast_64 (fun x_147 bx_147 cx_147 => ?_)
          have go_ := g
          refine g_calli (va_runV (As := [.int v47_5, .int x_147]) (rest := []) ⟨hx, hb, hml, hown, hts⟩ (r_X6_numberBehind l dC dI L kd tys f H.size g.2.2.2.1 r_26 mr_26 kr_26 v47_5 x_147) (cwV 2 hts (gV_ t_1745 t_1746 t_1747 t_193 t_1748) rfl rfl rfl (by decide +kernel) ⟨(Nat.le_of_ble_eq_true rfl), (Nat.le_of_ble_eq_true rfl)⟩) (pre3V g hK mr_26 kr_26 (by decide) (q := (RX6, TX6, 13)) rfl) rfl rfl hl.1 rfl (lv_room (Nat.le_of_ble_eq_true rfl)) dX3_changeLast_65 ⟨(Nat.le_of_ble_eq_true rfl), (Nat.le_of_ble_eq_true rfl)⟩) g hK (by decide) (by decide) (fx' := [(6, 3, r_26, .int x_30), (3, 1, a0_, .ref a_22), (3, 4, a0_, .int k_9), (3, 0, a0_, .int n_8), (3, 2, a0_, .ref m_), (3, 3, a0_, .ref p_)]) rfl (fun r_148 fr_148 H locs hp hMr_148 g => ?_)
          have hG_149 := isQ.frame hMr_148 go_.2.2.2.1 ma0_ ka0_ (by decide) (by decide) hQ47
          have hG_150 := arP.frame hMr_148 go_.2.2.2.1 mp_ kp_ (by decide) (by decide) hJ47
          have hG_151 := QR.frame hMr_148 go_.2.2.2.1 ma0_ ka0_ (by decide) (by decide) hU47
          refine lv_istore (lv' := [(6, .int r_148), (5, .int v47_5), (4, .ref r_26), (0, .ref a0_), (1, .ref x1_), (2, .int x2_), (3, .int x3_)]) hx hb dX3_changeLast_68 hl (by decide) rfl (fun ls hl => ?_)
          refine lv_iload hx hb dX3_changeLast_70 (lv_at hl 0 rfl) ?_
          refine lv_aload_n hx hb dX3_changeLast_72 rfl (lv_at hl 3 rfl) ?_
          refine g_getk (C := RX3) (T := TX3) (N := 6) hx hb hts (mc_ inX3) hown hK g rfl 3 (by decide) rfl (hts _ (List.mem_cons_of_mem _ t_810)) (fun _ h9 => h9) 5 rfl dX3_changeLast_73 ?_
          refine lv_iload_n hx hb dX3_changeLast_76 rfl (lv_at hl 6 rfl) ?_
          refine g_aaldX hx hb hK g mp_ kp_ (by decide) rfl (by decide) (in_bd bx3_ (by decide)) dX3_changeLast_77 (fun a_152 ea_152 ma_152 ua_152 wa_152 => ?_)
          have ka_152 : kd a_152 = 103 := by omega
          have lta_152 : x3_.toNatClampNeg < 10 := in_toNat (in_bd bx3_ (by decide))
          have qa_152 : a_152 = A_ x3_.toNatClampNeg := ea_152.trans (hG_150 _ lta_152)
          refine lv_iload hx hb dX3_changeLast_78 (lv_at hl 1 rfl) ?_
          refine g_iald hx hb hK g ma_152 ka_152 (by decide) rfl (in_bd b_145 (by decide)) dX3_changeLast_80 (fun x_153 bx_153 cx_153 => ?_)
          refine lv_icmp_eq (tgt := 107) hx hb dX3_changeLast_81 (by decide) (fun c_154 => ?_) (fun c_154 => ?_)
          · have fc_154 := eq_f c_154
            obtain ⟨y_155, ey_155⟩ : ∃ z : Int32, z = v47_5 + (-1) := ⟨_, rfl⟩
            refine lv_iinc (v := y_155) (lv' := [(5, .int y_155), (6, .int r_148), (4, .ref r_26), (0, .ref a0_), (1, .ref x1_), (2, .int x2_), (3, .int x3_)]) hx hb dX3_changeLast_107 hl (k := 1) rfl (by rw [ey_155]; rfl) (by decide) rfl (fun ls hl => ?_)
            have ty_155 := add_bd ey_155 b_145 kb_m1 (by decide)
            have b_156 : bd (-1) 1 y_155 := add_rg ty_155 b_145 kb_m1 (by decide)
            refine lv_goto (tgt := 47) hx hb dX3_changeLast_110 (by decide) ?_
            have hl9 := lv_sub hl [0, 2, 3, 4, 5, 6] (by rfl : lv_pick [(5, .int y_155), (6, .int r_148), (4, .ref r_26), (0, .ref a0_), (1, .ref x1_), (2, .int x2_), (3, .int x3_)] [0, 2, 3, 4, 5, 6] = [(5, .int y_155), (4, .ref r_26), (0, .ref a0_), (1, .ref x1_), (2, .int x2_), (3, .int x3_)])
            have g9 := g.sub (fx' := [(6, 3, r_26, .int x_30), (3, 1, a0_, .ref a_22), (3, 4, a0_, .int k_9), (3, 0, a0_, .int n_8), (3, 2, a0_, .ref m_), (3, 3, a0_, .ref p_)]) [0, 1, 2, 3, 4, 5] rfl
            exact ih47  y_155 (bd_sub b_156 (by decide)) (by have h9_0 := b_156; unfold bd at h9_0; have h9_1 := bv47_5; unfold bd at h9_1; have h9_2 := kb_0; unfold bd at h9_2; have h9_3 := kb_1; unfold bd at h9_3; have h9_4 := kb_m1; unfold bd at h9_4; omega) _ _ _ _ g9 ⟨_, hG_149, hG_150, hG_151, hw47, (by have h9_0 := bk_; unfold bd at h9_0; have h9_1 := b4_15; unfold bd at h9_1; have h9_2 := bn_; unfold bd at h9_2; have h9_3 := b0_14; unfold bd at h9_3; have h9_4 := b_145; unfold bd at h9_4; have h9_5 := bx2_; unfold bd at h9_5; have h9_6 := bx3_; unfold bd at h9_6; have h9_7 := b_21; unfold bd at h9_7; have h9_8 := bx_23; unfold bd at h9_8; have h9_9 := bx_24; unfold bd at h9_9; have h9_10 := bx_30; unfold bd at h9_10; have h9_11 := b_2; unfold bd at h9_11; have h9_12 := b_156; unfold bd at h9_12; have h9_13 := b_32; unfold bd at h9_13; have h8_0 := kb_0; unfold bd at h8_0; have h8_1 := kb_1; unfold bd at h8_1; have h8_2 := kb_m1; unfold bd at h8_2; omega), hm47⟩ hl9
          · have fc_154 := neq_f c_154
            refine lv_aload_n hx hb dX3_changeLast_84 rfl (lv_at hl 3 rfl) ?_
            refine g_getk (C := RX3) (T := TX3) (N := 6) hx hb hts (mc_ inX3) hown hK g rfl 3 (by decide) rfl (hts _ (List.mem_cons_of_mem _ t_810)) (fun _ h9 => h9) 5 rfl dX3_changeLast_85 ?_
            refine lv_iload_n hx hb dX3_changeLast_88 rfl (lv_at hl 6 rfl) ?_
            refine g_aaldX hx hb hK g mp_ kp_ (by decide) rfl (by decide) (in_bd bx3_ (by decide)) dX3_changeLast_89 (fun a_157 ea_157 ma_157 ua_157 wa_157 => ?_)
            have ka_157 : kd a_157 = 103 := by omega
            have lta_157 : x3_.toNatClampNeg < 10 := in_toNat (in_bd bx3_ (by decide))
            have qa_157 : a_157 = A_ x3_.toNatClampNeg := ea_157.trans (hG_150 _ lta_157)
            refine lv_iload hx hb dX3_changeLast_90 (lv_at hl 1 rfl) ?_
            refine lv_iload hx hb dX3_changeLast_92 (lv_at hl 0 rfl) ?_
            have go_ := g
            refine g_iastX hx hb hK g ma_157 ka_157 (by decide) rfl (in_bd b_145 (by decide)) (bdT r_148) (by decide) dX3_changeLast_94 (fun f H locs hM_158 u_160 g => ?_)
            have hG_159 := arP.frame hM_158 go_.2.2.2.1 mp_ kp_ (by decide) (by decide) hG_150
            obtain ⟨y_163, hQ_161⟩ := isQ.ux hG_149 lta_157 qa_157 u_160.1
            have hU_162 := QR.arg hG_151 lta_157 qa_157 u_160.1 ka_157
            have hw_164 : wQ (RQ.ua Q47 x3_.toNatClampNeg y_163) n_8 k_9 := wQ.arg hw47 hm47
            have hm_165 : 0 ≤ ((RQ.ua Q47 x3_.toNatClampNeg y_163).1 x3_.toNatClampNeg).toInt := hm47
            refine lv_aload_n hx hb dX3_changeLast_95 rfl (lv_at hl 3 rfl) ?_
            refine lv_aload_n hx hb dX3_changeLast_96 rfl (lv_at hl 4 rfl) ?_
            refine lv_iload_n hx hb dX3_changeLast_97 rfl (lv_at hl 6 rfl) ?_
            refine lv_iload hx hb dX3_changeLast_98 (lv_at hl 1 rfl) ?_
            refine lv_iconst (v := 1) hx hb dX3_changeLast_100 (by decide) ?_
            refine lv_iadd hx hb dX3_changeLast_101 ?_
            refine lv_topi (fun y_166 ey_166 => ?_)
            have ty_166 := add_bd ey_166 b_145 kb_1 (by decide)
            have b_167 : bd 1 3 y_166 := add_rg ty_166 b_145 kb_1 (by decide)
            have go_ := g
            refine g_callv (va_runV (As := [.ref x1_, .int x3_, .int y_166]) (rest := []) ⟨hx, hb, hml, hown, hts⟩ (r_X3_lowerArgumentsQ l dC dI L kd tys f H.size g.2.2.2.1 a0_ ma0_ ka0_ p_ mp_ kp_ m_ mm_ km_ A_ (RQ.ua Q47 x3_.toNatClampNeg y_163) n_8 b0_14 k_9 b4_15 hG_159 hQ_161 hw_164 x1_ mx1_ kx1_ x3_ bx3_ y_166 (bd_sub b_167 (by decide)) hm_165 (g.fcts [3, 2, 4, 5] rfl)) (cwV 3 hts (gV_ t_1724 t_1726 t_86 t_196 t_1727) rfl rfl rfl (by decide +kernel) ⟨(Nat.le_of_ble_eq_true rfl), (Nat.le_of_ble_eq_true rfl)⟩) (pre3V g hK ma0_ ka0_ (by decide) (q := (RX3, TX3, 6)) rfl) rfl rfl hl.1 rfl (lv_room (Nat.le_of_ble_eq_true rfl)) dX3_changeLast_102 ⟨(Nat.le_of_ble_eq_true rfl), (Nat.le_of_ble_eq_true rfl)⟩) g hK (by decide) (by decide) (fx' := [(6, 3, r_26, .int x_30), (3, 1, a0_, .ref a_22), (3, 4, a0_, .int k_9), (3, 0, a0_, .int n_8), (3, 2, a0_, .ref m_), (3, 3, a0_, .ref p_)]) rfl (fun fr_168 H locs hp hMr_168 g => ?_)
            obtain ⟨hx_169, -⟩ := hp
            have hG_170 := arP.frame hMr_168 go_.2.2.2.1 mp_ kp_ (by decide) (by decide) hG_159
            obtain ⟨Q_171, n_172, k_173, hQ_174, hU_175, h0_176, h4_177, b0_178, b4_179, hP_180⟩ := hx_169
            have hU_181 := QR.tr hU_162 hU_175
            obtain rfl : n_8 = n_172 := by have h9 := (fx_at g (i := 3) rfl).2.2.2.symm.trans h0_176; cases h9; rfl
            obtain rfl : k_9 = k_173 := by have h9 := (fx_at g (i := 2) rfl).2.2.2.symm.trans h4_177; cases h9; rfl
            have hz_182 := hP_180.2.1
            refine lv_iconst (v := 1) hx hb dX3_changeLast_105 (by decide) ?_
            subst hQ
            exact W.zret (v := 1) hx hb hr (nar_z (bd_sub kb_1 (by decide) : bd 0 1 _).1 (bd_sub kb_1 (by decide) : bd 0 1 _).2) (fun t ht hW => ⟨⟨_, _, rfl, ⟨⟨Q_171, n_8, k_9, hQ_174, hU_181, (fx_at g (i := 3) rfl).2.2.2, (fx_at g (i := 2) rfl).2.2.2, b0_14, b4_15, ⟨hP_180.1, (by have h9_0 := bk_; unfold bd at h9_0; have h9_1 := b4_15; unfold bd at h9_1; have h9_2 := bn_; unfold bd at h9_2; have h9_3 := b0_14; unfold bd at h9_3; have h9_4 := b_145; unfold bd at h9_4; have h9_5 := bx2_; unfold bd at h9_5; have h9_6 := bx3_; unfold bd at h9_6; have h9_7 := b_21; unfold bd at h9_7; have h9_8 := bx_23; unfold bd at h9_8; have h9_9 := bx_24; unfold bd at h9_9; have h9_10 := bx_30; unfold bd at h9_10; have h9_11 := b_2; unfold bd at h9_11; have h9_12 := b_167; unfold bd at h9_12; have h9_13 := b_32; unfold bd at h9_13; have h8_0 := kb_0; unfold bd at h8_0; have h8_1 := kb_1; unfold bd at h8_1; have h8_2 := kb_m1; unfold bd at h8_2; omega)⟩⟩, (bd_sub kb_1 (by decide)), trivial⟩, q3_of g hK ht hW⟩, g.2.2.1.F ht⟩) g.2.2.1.2.2 dX3_changeLast_106
    have hl9 := lv_sub hl [0, 1, 2, 3, 4, 5] (by rfl : lv_pick [(5, .int y_31), (4, .ref r_26), (0, .ref a0_), (1, .ref x1_), (2, .int x2_), (3, .int x3_)] [0, 1, 2, 3, 4, 5] = [(5, .int y_31), (4, .ref r_26), (0, .ref a0_), (1, .ref x1_), (2, .int x2_), (3, .int x3_)])
    have g9 := g.sub (fx' := [(6, 3, r_26, .int x_30), (3, 1, a0_, .ref a_22), (3, 4, a0_, .int k_9), (3, 0, a0_, .int n_8), (3, 2, a0_, .ref m_), (3, 3, a0_, .ref p_)]) [0, 1, 2, 3, 4, 5] rfl
    exact loop_33 (9) y_31 b_32 (by have h9_0 := b_32; unfold bd at h9_0; have h9_1 := kb_1; unfold bd at h9_1; have h9_2 := kb_m1; unfold bd at h9_2; omega) _ _ _ _ g9 ⟨_, hG_27, hG_28, hG_29, hP_16.1, (by have h9_0 := bk_; unfold bd at h9_0; have h9_1 := b4_15; unfold bd at h9_1; have h9_2 := bn_; unfold bd at h9_2; have h9_3 := b0_14; unfold bd at h9_3; have h9_4 := bx2_; unfold bd at h9_4; have h9_5 := bx3_; unfold bd at h9_5; have h9_6 := b_21; unfold bd at h9_6; have h9_7 := bx_23; unfold bd at h9_7; have h9_8 := bx_24; unfold bd at h9_8; have h9_9 := bx_30; unfold bd at h9_9; have h9_10 := b_2; unfold bd at h9_10; have h9_11 := b_32; unfold bd at h9_11; have h8_0 := kb_1; unfold bd at h8_0; have h8_1 := kb_m1; unfold bd at h8_1; omega), hm_25⟩ hl9
  · have fc_20 := eq_f c_20
    have b_183 : bd (-1) (-1) x_19 := eqX fc_20 bx_19 kb_m1 (by decide)
    refine lv_iconst (v := 0) hx hb dX3_changeLast_17 (by decide) ?_
    have kb_0 : bd 0 0 (0 : Int32) := ⟨by decide, by decide⟩
    subst hQ
    exact W.zret (v := 0) hx hb hr (nar_z (bd_sub kb_0 (by decide) : bd 0 1 _).1 (bd_sub kb_0 (by decide) : bd 0 1 _).2) (fun t ht hW => ⟨⟨_, _, rfl, ⟨⟨Q_, n_8, k_9, hQ_10, hU_17, (fx_at g (i := 1) rfl).2.2.2, (fx_at g (i := 0) rfl).2.2.2, b0_14, b4_15, ⟨hP_16.1, (by have h9_0 := bk_; unfold bd at h9_0; have h9_1 := b4_15; unfold bd at h9_1; have h9_2 := bn_; unfold bd at h9_2; have h9_3 := b0_14; unfold bd at h9_3; have h9_4 := bx2_; unfold bd at h9_4; have h9_5 := bx3_; unfold bd at h9_5; have h9_6 := b_183; unfold bd at h9_6; have h9_7 := b_2; unfold bd at h9_7; have h8_0 := kb_1; unfold bd at h8_0; have h8_1 := kb_m1; unfold bd at h8_1; omega)⟩⟩, (bd_sub kb_0 (by decide)), trivial⟩, q3_of g hK ht hW⟩, g.2.2.1.F ht⟩) g.2.2.1.2.2 dX3_changeLast_18
set_option maxHeartbeats 4000000 in
set_option maxRecDepth 100000 in
theorem r_X3_goOnBehindQ (l : Launch) (dC : Nat → ClassId) (dI : Nat → Nat → Nat) (L : List Nat) (kd : Nat → Nat) (tys : List (ClassId × FieldType)) (f0 : Nat → va_E) (sz : Nat) (hWT : WT L kd tys f0) (a0_ : Nat) (ma0_ : a0_ ∈ L) (ka0_ : kd a0_ = 3) (p_ : Nat) (mp_ : p_ ∈ L) (kp_ : kd p_ = 124) (m_ : Nat) (mm_ : m_ ∈ L) (km_ : kd m_ = 123) (A_ : Nat → Nat) (Q_ : RQ) (n_ : Int32) (bn_ : bd 0 10 n_) (k_ : Int32) (bk_ : bd 0 3 k_) (hJ_ : arP f0 p_ A_) (hQ_ : isQ L kd f0 m_ A_ Q_) (hw : wQ Q_ n_ k_) (x1_ : Nat) (mx1_ : x1_ ∈ L) (kx1_ : kd x1_ = 7) (x2_ : Int32) (bx2_ : bd 0 7 x2_) (x3_ : Int32) (x4_ : Int32) (bx4_ : bd 0 10 x4_) (hfx : Fs L kd f0 [(3, 0, a0_, .int n_), (3, 4, a0_, .int k_), (3, 2, a0_, .ref m_), (3, 3, a0_, .ref p_)]) : Met l yX3_goOnBehind (.code yX3_goOnBehind cX3_goOnBehind 6 (some .boolean) :: lw_g) ({ frames := 3, cells := 0, slots := 0, locals := 76 }) (va_Pc [.ref a0_, .ref x1_, .int x2_, .int x3_, .int x4_] (P3 (dC, dI) L tys f0 sz)) (va_Qi (fun (r : Int32) (f : Nat → va_E) => ((rowT L kd f0 f a0_ m_ A_ (fun Q1 n1 k1 => wQ Q1 n1 k1)) ∧ bd 0 1 r ∧ True)) (Q3 (dC, dI) L kd tys [(3, 0), (3, 4)] [103, 122, 123, 125] f0 sz) (pA L sz)) 0 0 (pA L sz) := by
  refine Met.ofW (cc := cX3_goOnBehind) (maxL := 6) (ret := (some .boolean)) (by decide) rfl ?_
  intro p e s m args below meth c s₁ B hml hv
  obtain ⟨rfl, hsz, hP, hK, hD0⟩ := hv
  have hx := B.exec
  have hb := B.bytes
  have hr := B.returns
  have hts := atoms_spec (ws := (.code yX3_goOnBehind cX3_goOnBehind 6 (some .boolean) :: lw_g)) B.pre
  have hown : s.vm.findClass RX3 = some m.cls := findClass_of_methodNamed B.named
  have hlocks := B.notSynchronized
  subst hsz
  have g : G3 (dC, dI) L kd tys s f0 [(3, 0), (3, 4)] [103, 122, 123, 125] f0 s.heap [] [(3, 0, a0_, .int n_), (3, 4, a0_, .int k_), (3, 2, a0_, .ref m_), (3, 3, a0_, .ref p_)] := G3.start hP hD0 hWT hfx
  have hl := lv_entry ([.ref a0_, .ref x1_, .int x2_, .int x3_, .int x4_]) (n := 6) (Nat.le_of_ble_eq_true rfl)
  rw [lg_entry_eq]
  generalize (lg_sl ([.ref a0_, .ref x1_, .int x2_, .int x3_, .int x4_]) ++ List.replicate (6 - (lg_sl ([.ref a0_, .ref x1_, .int x2_, .int x3_, .int x4_])).length) Slot.unset).toArray = ls at hl ⊢
  have hl : lv_has ls 6 [(0, .ref a0_), (1, .ref x1_), (2, .int x2_), (3, .int x3_), (4, .int x4_)] := hl
  refine W_q (fun Q hQ => ?_)
  have hU_0 : QR L kd f0 f0 a0_ m_ A_ := QR.refl
  refine lv_iload_n hx hb dX3_goOnBehind_0 rfl (lv_at hl 3 rfl) ?_
  refine lv_aload_n hx hb dX3_goOnBehind_1 rfl (lv_at hl 0 rfl) ?_
  refine g_getk (C := RX3) (T := TX3) (N := 6) hx hb hts (mc_ inX3) hown hK g rfl 0 (by decide) rfl (hts _ (List.mem_cons_of_mem _ t_801)) (fun _ h9 => h9) 0 rfl dX3_goOnBehind_2 ?_
  refine lv_iconst (v := 1) hx hb dX3_goOnBehind_5 (by decide) ?_
  have kb_1 : bd 1 1 (1 : Int32) := ⟨by decide, by decide⟩
  refine lv_isub hx hb dX3_goOnBehind_6 ?_
  refine lv_topi (fun y_1 ey_1 => ?_)
  have ty_1 := sub_bd ey_1 bn_ kb_1 (by decide)
  have b_2 : bd (-1) 9 y_1 := sub_rg ty_1 bn_ kb_1 (by decide)
  refine va_mmin hx hb (hml.trans hl.1.symm) hown (hts _ (List.mem_cons_of_mem _ t_1740)) (hts _ (List.mem_cons_of_mem _ t_998)) (hts _ (List.mem_cons_of_mem _ t_204)) (hts _ (List.mem_cons_of_mem _ t_999)) (Nat.le_of_ble_eq_true rfl) (Nat.le_of_ble_eq_true rfl) (Nat.le_of_ble_eq_true rfl) (Nat.le_of_ble_eq_true rfl) dX3_goOnBehind_7 ?_
  refine lv_topi (fun y_3 ey_3 => ?_)
  have ty_3 : y_3.toInt = min x3_.toInt y_1.toInt := by rw [ey_3]; exact mmin_ok _ _
  have b_4 : bd (-2147483648) 9 y_3 := min_rg ty_3 (bdT x3_) b_2 (by decide)
  refine lv_istore (lv' := [(5, .int y_3), (0, .ref a0_), (1, .ref x1_), (2, .int x2_), (3, .int x3_), (4, .int x4_)]) hx hb dX3_goOnBehind_10 hl (by decide) rfl (fun ls hl => ?_)
  have loop_5 : ∀ (n : Nat) (v12_5 : Int32) (w12_3_0_a0_ : Int32) (w12_3_4_a0_ : Int32), bd (-2147483648) 9 v12_5 → bd 0 10 w12_3_0_a0_ → bd 0 3 w12_3_4_a0_ → (v12_5.toInt - (-2147483648) < (n : Int)) → ∀ (f : Nat → va_E) (H : Heap) (locs : List Loc) (ls : Array Slot), G3 (dC, dI) L kd tys s f0 [(3, 0), (3, 4)] [103, 122, 123, 125] f H locs [(3, 0, a0_, .int w12_3_0_a0_), (3, 4, a0_, .int w12_3_4_a0_), (3, 2, a0_, .ref m_), (3, 3, a0_, .ref p_)] → (∃ Q1 : RQ, isQ L kd f m_ A_ Q1 ∧ arP f p_ A_ ∧ QR L kd f0 f a0_ m_ A_ ∧ wQ Q1 w12_3_0_a0_ w12_3_4_a0_ ∧ v12_5.toInt < w12_3_0_a0_.toInt) → lv_has ls 6 [(5, .int v12_5), (0, .ref a0_), (1, .ref x1_), (2, .int x2_), (3, .int x3_), (4, .int x4_)] → W p l e ({ frames := 3, cells := 0, slots := 0, locals := 76 } : Room) s m [.ref a0_, .ref x1_, .int x2_, .int x3_, .int x4_].toArray below meth c H locs 0 0 Q (F0 m 12 ls []) := by
    intro n12
    induction n12 with
    | zero =>
      intro v12_5 w12_3_0_a0_ w12_3_4_a0_ bv12_5 bw12_3_0_a0_ bw12_3_4_a0_ hm12 f H locs ls g  ⟨Q12, hQ12, hJ12, hU12, hw12, hi12⟩ hl
      exact absurd hm12 (by have h9_v12_5 := bv12_5; unfold bd at h9_v12_5; have h9_w12_3_0_a0_ := bw12_3_0_a0_; unfold bd at h9_w12_3_0_a0_; have h9_w12_3_4_a0_ := bw12_3_4_a0_; unfold bd at h9_w12_3_4_a0_; omega)
    | succ n12 ih12 =>
      intro v12_5 w12_3_0_a0_ w12_3_4_a0_ bv12_5 bw12_3_0_a0_ bw12_3_4_a0_ hm12 f H locs ls g  ⟨Q12, hQ12, hJ12, hU12, hw12, hi12⟩ hl
      refine lv_iload hx hb dX3_goOnBehind_12 (lv_at hl 0 rfl) ?_
      refine lv_iconst (v := 1) hx hb dX3_goOnBehind_14 (by decide) ?_
      refine lv_icmp_lt (tgt := 48) hx hb dX3_goOnBehind_15 (by decide) (fun c_6 => ?_) (fun c_6 => ?_)
      · have fc_6 := lt_f c_6
        have b_7 : bd (-2147483648) 0 v12_5 := ltL fc_6 bv12_5 kb_1 (by decide)
        refine lv_iconst (v := 0) hx hb dX3_goOnBehind_48 (by decide) ?_
        have kb_0 : bd 0 0 (0 : Int32) := ⟨by decide, by decide⟩
        subst hQ
        exact W.zret (v := 0) hx hb hr (nar_z (bd_sub kb_0 (by decide) : bd 0 1 _).1 (bd_sub kb_0 (by decide) : bd 0 1 _).2) (fun t ht hW => ⟨⟨_, _, rfl, ⟨⟨Q12, w12_3_0_a0_, w12_3_4_a0_, hQ12, hU12, (fx_at g (i := 0) rfl).2.2.2, (fx_at g (i := 1) rfl).2.2.2, bw12_3_0_a0_, bw12_3_4_a0_, hw12⟩, (bd_sub kb_0 (by decide)), trivial⟩, q3_of g hK ht hW⟩, g.2.2.1.F ht⟩) g.2.2.1.2.2 dX3_goOnBehind_49
      · have fc_6 := nlt_f c_6
        have b_8 : bd 1 9 v12_5 := leR fc_6 kb_1 bv12_5 (by decide)
        refine lv_aload_n hx hb dX3_goOnBehind_18 rfl (lv_at hl 1 rfl) ?_
        refine lv_aload_n hx hb dX3_goOnBehind_19 rfl (lv_at hl 2 rfl) ?_
        refine lv_iload_n hx hb dX3_goOnBehind_20 rfl (lv_at hl 3 rfl) ?_
        refine lv_iload hx hb dX3_goOnBehind_21 (lv_at hl 0 rfl) ?_
        have go_ := g
        refine g_calli (va_runV (As := [.ref x1_, .int x2_, .int v12_5]) (rest := []) ⟨hx, hb, hml, hown, hts⟩ (r_X3_changeLastQ l dC dI L kd tys f H.size g.2.2.2.1 a0_ ma0_ ka0_ p_ mp_ kp_ m_ mm_ km_ A_ Q12 w12_3_0_a0_ bw12_3_0_a0_ w12_3_4_a0_ bw12_3_4_a0_ hJ12 hQ12 hw12 x1_ mx1_ kx1_ x2_ bx2_ v12_5 (bd_sub b_8 (by decide)) (by have h9_0 := bk_; unfold bd at h9_0; have h9_1 := bn_; unfold bd at h9_1; have h9_2 := b_8; unfold bd at h9_2; have h9_3 := bw12_3_0_a0_; unfold bd at h9_3; have h9_4 := bw12_3_4_a0_; unfold bd at h9_4; have h9_5 := bx2_; unfold bd at h9_5; have h9_6 := bx4_; unfold bd at h9_6; have h9_7 := b_2; unfold bd at h9_7; have h9_8 := b_4; unfold bd at h9_8; have h8_0 := kb_1; unfold bd at h8_0; omega) (g.fcts [0, 1, 2, 3] rfl)) (cwV 3 hts (gV_ t_1741 t_1743 t_87 t_196 t_1744) rfl rfl rfl (by decide +kernel) ⟨(Nat.le_of_ble_eq_true rfl), (Nat.le_of_ble_eq_true rfl)⟩) (pre3V g hK ma0_ ka0_ (by decide) (q := (RX3, TX3, 6)) rfl) rfl rfl hl.1 rfl (lv_room (Nat.le_of_ble_eq_true rfl)) dX3_goOnBehind_23 ⟨(Nat.le_of_ble_eq_true rfl), (Nat.le_of_ble_eq_true rfl)⟩) g hK (by decide) (by decide) (fx' := [(3, 2, a0_, .ref m_), (3, 3, a0_, .ref p_)]) rfl (fun r_9 fr_9 H locs hp hMr_9 g => ?_)
        obtain ⟨hx_10, h_11, -⟩ := hp
        have hG_12 := arP.frame hMr_9 go_.2.2.2.1 mp_ kp_ (by decide) (by decide) hJ12
        obtain ⟨Q_13, n_14, k_15, hQ_16, hU_17, h0_18, h4_19, b0_20, b4_21, hP_22⟩ := hx_10
        have hU_23 := QR.tr hU12 hU_17
        have g := G3.add g ma0_ ka0_ (by decide) h0_18
        have g := G3.add g ma0_ ka0_ (by decide) h4_19
        have kb_0 : bd 0 0 (0 : Int32) := ⟨by decide, by decide⟩
        refine lv_if_eq (tgt := 42) hx hb dX3_goOnBehind_26 (by decide) (fun c_24 => ?_) (fun c_24 => ?_)
        · have fc_24 := eq_f c_24
          have b_25 : bd 0 0 r_9 := eqX fc_24 h_11 kb_0 (by decide)
          have kb_m1 : bd (-1) (-1) ((-1) : Int32) := ⟨by decide, by decide⟩
          obtain ⟨y_26, ey_26⟩ : ∃ z : Int32, z = v12_5 + (-1) := ⟨_, rfl⟩
          refine lv_iinc (v := y_26) (lv' := [(5, .int y_26), (0, .ref a0_), (1, .ref x1_), (2, .int x2_), (3, .int x3_), (4, .int x4_)]) hx hb dX3_goOnBehind_42 hl (k := 0) rfl (by rw [ey_26]; rfl) (by decide) rfl (fun ls hl => ?_)
          have ty_26 := add_bd ey_26 b_8 kb_m1 (by decide)
          have b_27 : bd 0 8 y_26 := add_rg ty_26 b_8 kb_m1 (by decide)
          refine lv_goto (tgt := 12) hx hb dX3_goOnBehind_45 (by decide) ?_
          have hl9 := lv_sub hl [0, 1, 2, 3, 4, 5] (by rfl : lv_pick [(5, .int y_26), (0, .ref a0_), (1, .ref x1_), (2, .int x2_), (3, .int x3_), (4, .int x4_)] [0, 1, 2, 3, 4, 5] = [(5, .int y_26), (0, .ref a0_), (1, .ref x1_), (2, .int x2_), (3, .int x3_), (4, .int x4_)])
          have g9 := g.sub (fx' := [(3, 0, a0_, .int n_14), (3, 4, a0_, .int k_15), (3, 2, a0_, .ref m_), (3, 3, a0_, .ref p_)]) [1, 0, 2, 3] rfl
          exact ih12  y_26 n_14 k_15 (bd_sub b_27 (by decide)) b0_20 b4_21 (by have h9_0 := b0_20; unfold bd at h9_0; have h9_1 := b4_21; unfold bd at h9_1; have h9_2 := b_27; unfold bd at h9_2; have h9_3 := bv12_5; unfold bd at h9_3; have h9_4 := bw12_3_0_a0_; unfold bd at h9_4; have h9_5 := bw12_3_4_a0_; unfold bd at h9_5; have h9_6 := kb_0; unfold bd at h9_6; have h9_7 := kb_1; unfold bd at h9_7; have h9_8 := kb_m1; unfold bd at h9_8; omega) _ _ _ _ g9 ⟨_, hQ_16, hG_12, hU_23, hP_22.1, (by have h9_0 := bk_; unfold bd at h9_0; have h9_1 := b4_21; unfold bd at h9_1; have h9_2 := bn_; unfold bd at h9_2; have h9_3 := b0_20; unfold bd at h9_3; have h9_4 := b_25; unfold bd at h9_4; have h9_5 := b_8; unfold bd at h9_5; have h9_6 := bw12_3_0_a0_; unfold bd at h9_6; have h9_7 := bw12_3_4_a0_; unfold bd at h9_7; have h9_8 := bx2_; unfold bd at h9_8; have h9_9 := bx4_; unfold bd at h9_9; have h9_10 := b_2; unfold bd at h9_10; have h9_11 := b_27; unfold bd at h9_11; have h9_12 := b_4; unfold bd at h9_12; have h8_0 := kb_0; unfold bd at h8_0; have h8_1 := kb_1; unfold bd at h8_1; have h8_2 := kb_m1; unfold bd at h8_2; omega)⟩ hl9
        · have fc_24 := neq_f c_24
          have b_28 : bd 1 1 r_9 := neX fc_24 h_11 kb_0 (by decide)
          refine lv_aload_n hx hb dX3_goOnBehind_29 rfl (lv_at hl 1 rfl) ?_
          refine lv_aload_n hx hb dX3_goOnBehind_30 rfl (lv_at hl 2 rfl) ?_
          refine lv_iload_n hx hb dX3_goOnBehind_31 rfl (lv_at hl 3 rfl) ?_
          refine lv_iload hx hb dX3_goOnBehind_32 (lv_at hl 0 rfl) ?_
          refine lv_iconst (v := 1) hx hb dX3_goOnBehind_34 (by decide) ?_
          refine lv_iadd hx hb dX3_goOnBehind_35 ?_
          refine lv_topi (fun y_29 ey_29 => ?_)
          have ty_29 := add_bd ey_29 b_8 kb_1 (by decide)
          have b_30 : bd 2 10 y_29 := add_rg ty_29 b_8 kb_1 (by decide)
          refine lv_iload hx hb dX3_goOnBehind_36 (lv_at hl 5 rfl) ?_
          have go_ := g
          refine g_calli (va_runV (As := [.ref x1_, .int x2_, .int y_29, .int x4_]) (rest := []) ⟨hx, hb, hml, hown, hts⟩ (r_X3_fillFromQ l dC dI L kd tys fr_9 H.size g.2.2.2.1 a0_ ma0_ ka0_ p_ mp_ kp_ m_ mm_ km_ A_ Q_13 n_14 b0_20 k_15 b4_21 hG_12 hQ_16 hP_22.1 x1_ mx1_ kx1_ x2_ bx2_ y_29 (bd_sub b_30 (by decide)) x4_ bx4_ (by have h9_0 := bk_; unfold bd at h9_0; have h9_1 := b4_21; unfold bd at h9_1; have h9_2 := bn_; unfold bd at h9_2; have h9_3 := b0_20; unfold bd at h9_3; have h9_4 := b_28; unfold bd at h9_4; have h9_5 := b_8; unfold bd at h9_5; have h9_6 := bw12_3_0_a0_; unfold bd at h9_6; have h9_7 := bw12_3_4_a0_; unfold bd at h9_7; have h9_8 := bx2_; unfold bd at h9_8; have h9_9 := bx4_; unfold bd at h9_9; have h9_10 := b_2; unfold bd at h9_10; have h9_11 := b_30; unfold bd at h9_11; have h9_12 := b_4; unfold bd at h9_12; have h8_0 := kb_0; unfold bd at h8_0; have h8_1 := kb_1; unfold bd at h8_1; omega) (g.fcts [1, 0, 2, 3] rfl)) (cwV 4 hts (gV_ t_1749 t_1716 t_1717 t_196 t_1718) rfl rfl rfl (by decide +kernel) ⟨(Nat.le_of_ble_eq_true rfl), (Nat.le_of_ble_eq_true rfl)⟩) (pre3V g hK ma0_ ka0_ (by decide) (q := (RX3, TX3, 6)) rfl) rfl rfl hl.1 rfl (lv_room (Nat.le_of_ble_eq_true rfl)) dX3_goOnBehind_38 ⟨(Nat.le_of_ble_eq_true rfl), (Nat.le_of_ble_eq_true rfl)⟩) g hK (by decide) (by decide) (fx' := [(3, 2, a0_, .ref m_), (3, 3, a0_, .ref p_)]) rfl (fun r_31 fr_31 H locs hp hMr_31 g => ?_)
          obtain ⟨hx_32, h_33, -⟩ := hp
          have hG_34 := arP.frame hMr_31 go_.2.2.2.1 mp_ kp_ (by decide) (by decide) hG_12
          obtain ⟨Q_35, n_36, k_37, hQ_38, hU_39, h0_40, h4_41, b0_42, b4_43, hP_44⟩ := hx_32
          have hU_45 := QR.tr hU_23 hU_39
          have g := G3.add g ma0_ ka0_ (by decide) h0_40
          have g := G3.add g ma0_ ka0_ (by decide) h4_41
          subst hQ
          exact W.zret (v := r_31) hx hb hr (nar_z h_33.1 h_33.2) (fun t ht hW => ⟨⟨_, _, rfl, ⟨⟨Q_35, n_36, k_37, hQ_38, hU_45, (fx_at g (i := 1) rfl).2.2.2, (fx_at g (i := 0) rfl).2.2.2, b0_42, b4_43, hP_44⟩, h_33, trivial⟩, q3_of g hK ht hW⟩, g.2.2.1.F ht⟩) g.2.2.1.2.2 dX3_goOnBehind_41
  have hl9 := lv_sub hl [0, 1, 2, 3, 4, 5] (by rfl : lv_pick [(5, .int y_3), (0, .ref a0_), (1, .ref x1_), (2, .int x2_), (3, .int x3_), (4, .int x4_)] [0, 1, 2, 3, 4, 5] = [(5, .int y_3), (0, .ref a0_), (1, .ref x1_), (2, .int x2_), (3, .int x3_), (4, .int x4_)])
  have g9 := g.sub (fx' := [(3, 0, a0_, .int n_), (3, 4, a0_, .int k_), (3, 2, a0_, .ref m_), (3, 3, a0_, .ref p_)]) [0, 1, 2, 3] rfl
  exact loop_5 (4294967317) y_3 n_ k_ b_4 bn_ bk_ (by have h9_0 := b_4; unfold bd at h9_0; have h9_1 := bk_; unfold bd at h9_1; have h9_2 := bn_; unfold bd at h9_2; have h9_3 := kb_1; unfold bd at h9_3; omega) _ _ _ _ g9 ⟨_, hQ_, hJ_, hU_0, hw, (by have h9_0 := bk_; unfold bd at h9_0; have h9_1 := bn_; unfold bd at h9_1; have h9_2 := bx2_; unfold bd at h9_2; have h9_3 := bx4_; unfold bd at h9_3; have h9_4 := b_2; unfold bd at h9_4; have h9_5 := b_4; unfold bd at h9_5; have h8_0 := kb_1; unfold bd at h8_0; omega)⟩ hl9
