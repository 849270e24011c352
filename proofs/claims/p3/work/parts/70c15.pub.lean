set_option maxHeartbeats 4000000 in
set_option maxRecDepth 100000 in
theorem r_X3_shortenQ (l : Launch) (dC : Nat → ClassId) (dI : Nat → Nat → Nat) (L : List Nat) (kd : Nat → Nat) (tys : List (ClassId × FieldType)) (f0 : Nat → va_E) (sz : Nat) (hWT : WT L kd tys f0) (a0_ : Nat) (ma0_ : a0_ ∈ L) (ka0_ : kd a0_ = 3) (p_ : Nat) (mp_ : p_ ∈ L) (kp_ : kd p_ = 124) (m_ : Nat) (mm_ : m_ ∈ L) (km_ : kd m_ = 123) (A_ : Nat → Nat) (Q_ : RQ) (n_ : Int32) (bn_ : bd 0 10 n_) (k_ : Int32) (bk_ : bd 0 3 k_) (hJ_ : arP f0 p_ A_) (hQ_ : isQ L kd f0 m_ A_ Q_) (hw : wQ Q_ n_ k_) (x1_ : Int32) (bx1_ : bd 0 10 x1_) (hx : x1_.toInt ≤ n_.toInt) (hfx : Fs L kd f0 [(3, 0, a0_, .int n_), (3, 4, a0_, .int k_), (3, 2, a0_, .ref m_), (3, 3, a0_, .ref p_)]) : Met l yX3_shorten (.code yX3_shorten cX3_shorten 3 none :: lw_g) ({ frames := 0, cells := 0, slots := 0, locals := 0 }) (va_Pc [.ref a0_, .int x1_] (P3 (dC, dI) L tys f0 sz)) (va_Qv (fun (f : Nat → va_E) => ((rowT L kd f0 f a0_ m_ A_ (fun Q1 n1 k1 => wQ Q1 n1 k1 ∧ Q1 = Q_ ∧ n1.toInt = x1_.toInt ∧ k1.toInt ≤ k_.toInt)) ∧ True)) (Q3 (dC, dI) L kd tys [(3, 0), (3, 4)] [] f0 sz) (pA L sz)) 0 0 (pA L sz) := by
  refine Met.ofW (cc := cX3_shorten) (maxL := 3) (ret := none) (by decide) rfl ?_
  intro p e s m args below meth c s₁ B hml hv
  obtain ⟨rfl, hsz, hP, hK, hD0⟩ := hv
  have hx := B.exec
  have hb := B.bytes
  have hr := B.returns
  have hts := atoms_spec (ws := (.code yX3_shorten cX3_shorten 3 none :: lw_g)) B.pre
  have hown : s.vm.findClass RX3 = some m.cls := findClass_of_methodNamed B.named
  have hlocks := B.notSynchronized
  subst hsz
  have g : G3 (dC, dI) L kd tys s f0 [(3, 0), (3, 4)] [] f0 s.heap [] [(3, 0, a0_, .int n_), (3, 4, a0_, .int k_), (3, 2, a0_, .ref m_), (3, 3, a0_, .ref p_)] := G3.start hP hD0 hWT hfx
  have hl := lv_entry ([.ref a0_, .int x1_]) (n := 3) (Nat.le_of_ble_eq_true rfl)
  rw [lg_entry_eq]
  generalize (lg_sl ([.ref a0_, .int x1_]) ++ List.replicate (3 - (lg_sl ([.ref a0_, .int x1_])).length) Slot.unset).toArray = ls at hl ⊢
  have hl : lv_has ls 3 [(0, .ref a0_), (1, .int x1_)] := hl
  refine W_q (fun Q hQ => ?_)
  have hU_0 : QR L kd f0 f0 a0_ m_ A_ := QR.refl
  refine lv_aload_n hx hb dX3_shorten_0 rfl (lv_at hl 0 rfl) ?_
  refine g_getk (C := RX3) (T := TX3) (N := 6) hx hb hts (mc_ inX3) hown hK g rfl 0 (by decide) rfl (hts _ (List.mem_cons_of_mem _ t_801)) (fun _ h9 => h9) 0 rfl dX3_shorten_1 ?_
  refine lv_iconst (v := 1) hx hb dX3_shorten_4 (by decide) ?_
  have kb_1 : bd 1 1 (1 : Int32) := ⟨by decide, by decide⟩
  refine lv_isub hx hb dX3_shorten_5 ?_
  refine lv_topi (fun y_1 ey_1 => ?_)
  have ty_1 := sub_bd ey_1 bn_ kb_1 (by decide)
  have b_2 : bd (-1) 9 y_1 := sub_rg ty_1 bn_ kb_1 (by decide)
  refine lv_istore_n (lv' := [(2, .int y_1), (0, .ref a0_), (1, .int x1_)]) hx hb dX3_shorten_6 rfl hl (by decide) rfl (fun ls hl => ?_)
  have loop_3 : ∀ (n : Nat) (v7_2 : Int32) (w7_3_0_a0_ : Int32) (w7_3_4_a0_ : Int32), bd (-1) 9 v7_2 → bd 0 10 w7_3_0_a0_ → bd 0 3 w7_3_4_a0_ → (v7_2.toInt - (-1) < (n : Int)) → ∀ (f : Nat → va_E) (H : Heap) (locs : List Loc) (ls : Array Slot), G3 (dC, dI) L kd tys s f0 [(3, 0), (3, 4)] [] f H locs [(3, 0, a0_, .int w7_3_0_a0_), (3, 4, a0_, .int w7_3_4_a0_), (3, 2, a0_, .ref m_), (3, 3, a0_, .ref p_)] → (isQ L kd f m_ A_ Q_ ∧ arP f p_ A_ ∧ QR L kd f0 f a0_ m_ A_ ∧ wQ Q_ w7_3_0_a0_ w7_3_4_a0_ ∧ w7_3_0_a0_.toInt = v7_2.toInt + 1 ∧ x1_.toInt ≤ w7_3_0_a0_.toInt ∧ w7_3_4_a0_.toInt ≤ k_.toInt) → lv_has ls 3 [(2, .int v7_2), (0, .ref a0_), (1, .int x1_)] → W p l e ({ frames := 0, cells := 0, slots := 0, locals := 0 } : Room) s m [.ref a0_, .int x1_].toArray below meth c H locs 0 0 Q (F0 m 7 ls []) := by
    intro n7
    induction n7 with
    | zero =>
      intro v7_2 w7_3_0_a0_ w7_3_4_a0_ bv7_2 bw7_3_0_a0_ bw7_3_4_a0_ hm7 f H locs ls g  ⟨hQ7, hJ7, hU7, hw7, hn7, hx7, hk7⟩ hl
      exact absurd hm7 (by have h9_v7_2 := bv7_2; unfold bd at h9_v7_2; have h9_w7_3_0_a0_ := bw7_3_0_a0_; unfold bd at h9_w7_3_0_a0_; have h9_w7_3_4_a0_ := bw7_3_4_a0_; unfold bd at h9_w7_3_4_a0_; omega)
    | succ n7 ih7 =>
      intro v7_2 w7_3_0_a0_ w7_3_4_a0_ bv7_2 bw7_3_0_a0_ bw7_3_4_a0_ hm7 f H locs ls g  ⟨hQ7, hJ7, hU7, hw7, hn7, hx7, hk7⟩ hl
      refine lv_iload_n hx hb dX3_shorten_7 rfl (lv_at hl 0 rfl) ?_
      refine lv_iload_n hx hb dX3_shorten_8 rfl (lv_at hl 2 rfl) ?_
      refine lv_icmp_lt (tgt := 51) hx hb dX3_shorten_9 (by decide) (fun c_4 => ?_) (fun c_4 => ?_)
      · have fc_4 := lt_f c_4
        subst hQ
        exact W.vret hx hb hr (fun t ht hW => ⟨⟨_, rfl, ⟨⟨Q_, w7_3_0_a0_, w7_3_4_a0_, hQ7, hU7, (fx_at g (i := 0) rfl).2.2.2, (fx_at g (i := 1) rfl).2.2.2, bw7_3_0_a0_, bw7_3_4_a0_, ⟨hw7, rfl, (by have h9_0 := bk_; unfold bd at h9_0; have h9_1 := bn_; unfold bd at h9_1; have h9_2 := bv7_2; unfold bd at h9_2; have h9_3 := bw7_3_0_a0_; unfold bd at h9_3; have h9_4 := bw7_3_4_a0_; unfold bd at h9_4; have h9_5 := bx1_; unfold bd at h9_5; have h9_6 := b_2; unfold bd at h9_6; have h8_0 := kb_1; unfold bd at h8_0; omega), (by have h9_0 := bk_; unfold bd at h9_0; have h9_1 := bn_; unfold bd at h9_1; have h9_2 := bv7_2; unfold bd at h9_2; have h9_3 := bw7_3_0_a0_; unfold bd at h9_3; have h9_4 := bw7_3_4_a0_; unfold bd at h9_4; have h9_5 := bx1_; unfold bd at h9_5; have h9_6 := b_2; unfold bd at h9_6; have h8_0 := kb_1; unfold bd at h8_0; omega)⟩⟩, trivial⟩, q3_of g hK ht hW⟩, g.2.2.1.F ht⟩) g.2.2.1.2.2 dX3_shorten_51
      · have fc_4 := nlt_f c_4
        have b_5 : bd 0 9 x1_ := leL fc_4 bx1_ bv7_2 (by decide)
        have b_6 : bd 0 9 v7_2 := leR fc_4 bx1_ bv7_2 (by decide)
        refine lv_iload_n hx hb dX3_shorten_12 rfl (lv_at hl 0 rfl) ?_
        have kb_0 : bd 0 0 (0 : Int32) := ⟨by decide, by decide⟩
        refine lv_if_lt (tgt := 51) hx hb dX3_shorten_13 (by decide) (fun c_7 => ?_) (fun c_7 => ?_)
        · have fc_7 := lt_f c_7
          have b_8 : bd 0 (-1) v7_2 := ltL fc_7 b_6 kb_0 (by decide)
          exact bd_no b_8 (by decide)
        · have fc_7 := nlt_f c_7
          refine lv_aload_n hx hb dX3_shorten_16 rfl (lv_at hl 1 rfl) ?_
          refine lv_iload_n hx hb dX3_shorten_17 rfl (lv_at hl 0 rfl) ?_
          have go_ := g
          refine g_putX (C := RX3) (T := TX3) (N := 6) hx hb hts (mc_ inX3) tyX3 tyX3_ok nmX3 hown hK g ma0_ ka0_ (by decide) rfl 0 (by decide) (hts _ (List.mem_cons_of_mem _ t_801)) (fun _ h9 => h9) rfl rfl (okV_i (bd_sub b_6 (by decide))) rfl rfl (by decide) (Or.inr (Or.inl (by decide))) (fx' := [(3, 4, a0_, .int w7_3_4_a0_), (3, 2, a0_, .ref m_), (3, 3, a0_, .ref p_)]) rfl dX3_shorten_18 (fun f H locs hM_9 u_12 g => ?_)
          have hG_10 := isQ.frame hM_9 go_.2.2.2.1 ma0_ ka0_ (by decide) (by decide) hQ7
          have hG_11 := arP.frame hM_9 go_.2.2.2.1 mp_ kp_ (by decide) (by decide) hJ7
          have hU_13 := QR.fld hU7 u_12 ka0_
          refine lv_aload_n hx hb dX3_shorten_21 rfl (lv_at hl 1 rfl) ?_
          refine lv_dup hx hb dX3_shorten_22 rfl ?_
          refine g_getk (C := RX3) (T := TX3) (N := 6) hx hb hts (mc_ inX3) hown hK g rfl 4 (by decide) rfl (hts _ (List.mem_cons_of_mem _ t_813)) (fun _ h9 => h9) 1 rfl dX3_shorten_23 ?_
          refine lv_aload_n hx hb dX3_shorten_26 rfl (lv_at hl 1 rfl) ?_
          refine g_getk (C := RX3) (T := TX3) (N := 6) hx hb hts (mc_ inX3) hown hK g rfl 2 (by decide) rfl (hts _ (List.mem_cons_of_mem _ t_807)) (fun _ h9 => h9) 2 rfl dX3_shorten_27 ?_
          refine lv_iload_n hx hb dX3_shorten_30 rfl (lv_at hl 0 rfl) ?_
          refine g_iald hx hb hK g mm_ km_ (by decide) rfl (in_bd b_6 (by decide)) dX3_shorten_31 (fun x_14 bx_14 cx_14 => ?_)
          have vx_14 : x_14 = Q_.1 v7_2.toNatClampNeg := cx_14.trans (hG_10.2.2.2.2.1 _)
          refine lv_iconst (v := (-1)) hx hb dX3_shorten_32 (by decide) ?_
          have kb_m1 : bd (-1) (-1) ((-1) : Int32) := ⟨by decide, by decide⟩
          refine lv_icmp_ne (tgt := 40) hx hb dX3_shorten_33 (by decide) (fun c_15 => ?_) (fun c_15 => ?_)
          · have fc_15 := neq_f c_15
            have b_16 : bd 0 11 x_14 := neX fc_15 bx_14 kb_m1 (by decide)
            refine lv_iconst (v := 0) hx hb dX3_shorten_40 (by decide) ?_
            refine lv_isub hx hb dX3_shorten_41 ?_
            refine lv_topi (fun y_17 ey_17 => ?_)
            have ty_17 := sub_bd ey_17 bw7_3_4_a0_ kb_0 (by decide)
            have b_18 : bd 0 3 y_17 := sub_rg ty_17 bw7_3_4_a0_ kb_0 (by decide)
            have hp_19 := wQ.pop (n := w7_3_0_a0_) (k := w7_3_4_a0_) (n1 := v7_2) (k1 := y_17) hw7 b_6.1 (by have h9_0 := bk_; unfold bd at h9_0; have h9_1 := bn_; unfold bd at h9_1; have h9_2 := b_6; unfold bd at h9_2; have h9_3 := bw7_3_0_a0_; unfold bd at h9_3; have h9_4 := bw7_3_4_a0_; unfold bd at h9_4; have h9_5 := b_5; unfold bd at h9_5; have h9_6 := b_16; unfold bd at h9_6; have h9_7 := b_2; unfold bd at h9_7; have h9_8 := b_18; unfold bd at h9_8; have h8_0 := kb_0; unfold bd at h8_0; have h8_1 := kb_1; unfold bd at h8_1; have h8_2 := kb_m1; unfold bd at h8_2; omega) (by have h8 : (Q_.1 v7_2.toNatClampNeg).toInt = _ := congrArg Int32.toInt vx_14.symm; split <;> (have h9_0 := bk_; unfold bd at h9_0; have h9_1 := bn_; unfold bd at h9_1; have h9_2 := b_6; unfold bd at h9_2; have h9_3 := bw7_3_0_a0_; unfold bd at h9_3; have h9_4 := bw7_3_4_a0_; unfold bd at h9_4; have h9_5 := b_5; unfold bd at h9_5; have h9_6 := b_16; unfold bd at h9_6; have h9_7 := b_2; unfold bd at h9_7; have h9_8 := b_18; unfold bd at h9_8; have h8_0 := kb_0; unfold bd at h8_0; have h8_1 := kb_1; unfold bd at h8_1; have h8_2 := kb_m1; unfold bd at h8_2; omega))
            have b_20 : bd 0 3 y_17 := ⟨hp_19.2, (by have h9_0 := bk_; unfold bd at h9_0; have h9_1 := bn_; unfold bd at h9_1; have h9_2 := b_6; unfold bd at h9_2; have h9_3 := bw7_3_0_a0_; unfold bd at h9_3; have h9_4 := bw7_3_4_a0_; unfold bd at h9_4; have h9_5 := b_5; unfold bd at h9_5; have h9_6 := b_16; unfold bd at h9_6; have h9_7 := b_2; unfold bd at h9_7; have h9_8 := b_18; unfold bd at h9_8; have h8_0 := kb_0; unfold bd at h8_0; have h8_1 := kb_1; unfold bd at h8_1; have h8_2 := kb_m1; unfold bd at h8_2; omega)⟩
            have go_ := g
            refine g_putX (C := RX3) (T := TX3) (N := 6) hx hb hts (mc_ inX3) tyX3 tyX3_ok nmX3 hown hK g ma0_ ka0_ (by decide) rfl 4 (by decide) (hts _ (List.mem_cons_of_mem _ t_813)) (fun _ h9 => h9) rfl rfl (okV_i b_20) rfl rfl (by decide) (Or.inr (Or.inl (by decide))) (fx' := [(3, 0, a0_, .int v7_2), (3, 2, a0_, .ref m_), (3, 3, a0_, .ref p_)]) rfl dX3_shorten_42 (fun f H locs hM_21 u_24 g => ?_)
            have hG_22 := isQ.frame hM_21 go_.2.2.2.1 ma0_ ka0_ (by decide) (by decide) hG_10
            have hG_23 := arP.frame hM_21 go_.2.2.2.1 mp_ kp_ (by decide) (by decide) hG_11
            have hU_25 := QR.fld hU_13 u_24 ka0_
            obtain ⟨y_26, ey_26⟩ : ∃ z : Int32, z = v7_2 + (-1) := ⟨_, rfl⟩
            refine lv_iinc (v := y_26) (lv' := [(2, .int y_26), (0, .ref a0_), (1, .int x1_)]) hx hb dX3_shorten_45 hl (k := 0) rfl (by rw [ey_26]; rfl) (by decide) rfl (fun ls hl => ?_)
            have ty_26 := add_bd ey_26 b_6 kb_m1 (by decide)
            have b_27 : bd (-1) 8 y_26 := add_rg ty_26 b_6 kb_m1 (by decide)
            refine lv_goto (tgt := 7) hx hb dX3_shorten_48 (by decide) ?_
            have hl9 := lv_sub hl [0, 1, 2] (by rfl : lv_pick [(2, .int y_26), (0, .ref a0_), (1, .int x1_)] [0, 1, 2] = [(2, .int y_26), (0, .ref a0_), (1, .int x1_)])
            have g9 := g.sub (fx' := [(3, 0, a0_, .int v7_2), (3, 4, a0_, .int y_17), (3, 2, a0_, .ref m_), (3, 3, a0_, .ref p_)]) [1, 0, 2, 3] rfl
            exact ih7  y_26 v7_2 y_17 (bd_sub b_27 (by decide)) (bd_sub b_6 (by decide)) b_20 (by have h9_0 := b_20; unfold bd at h9_0; have h9_1 := b_27; unfold bd at h9_1; have h9_2 := b_6; unfold bd at h9_2; have h9_3 := bv7_2; unfold bd at h9_3; have h9_4 := bw7_3_0_a0_; unfold bd at h9_4; have h9_5 := bw7_3_4_a0_; unfold bd at h9_5; have h9_6 := kb_0; unfold bd at h9_6; have h9_7 := kb_1; unfold bd at h9_7; have h9_8 := kb_m1; unfold bd at h9_8; omega) _ _ _ _ g9 ⟨hG_22, hG_23, hU_25, hp_19.1, (by have h9_0 := bk_; unfold bd at h9_0; have h9_1 := bn_; unfold bd at h9_1; have h9_2 := b_6; unfold bd at h9_2; have h9_3 := bw7_3_0_a0_; unfold bd at h9_3; have h9_4 := bw7_3_4_a0_; unfold bd at h9_4; have h9_5 := b_5; unfold bd at h9_5; have h9_6 := b_16; unfold bd at h9_6; have h9_7 := b_2; unfold bd at h9_7; have h9_8 := b_20; unfold bd at h9_8; have h9_9 := b_27; unfold bd at h9_9; have h8_0 := kb_0; unfold bd at h8_0; have h8_1 := kb_1; unfold bd at h8_1; have h8_2 := kb_m1; unfold bd at h8_2; omega), (by have h9_0 := bk_; unfold bd at h9_0; have h9_1 := bn_; unfold bd at h9_1; have h9_2 := b_6; unfold bd at h9_2; have h9_3 := bw7_3_0_a0_; unfold bd at h9_3; have h9_4 := bw7_3_4_a0_; unfold bd at h9_4; have h9_5 := b_5; unfold bd at h9_5; have h9_6 := b_16; unfold bd at h9_6; have h9_7 := b_2; unfold bd at h9_7; have h9_8 := b_20; unfold bd at h9_8; have h9_9 := b_27; unfold bd at h9_9; have h8_0 := kb_0; unfold bd at h8_0; have h8_1 := kb_1; unfold bd at h8_1; have h8_2 := kb_m1; unfold bd at h8_2; omega), (by have h9_0 := bk_; unfold bd at h9_0; have h9_1 := bn_; unfold bd at h9_1; have h9_2 := b_6; unfold bd at h9_2; have h9_3 := bw7_3_0_a0_; unfold bd at h9_3; have h9_4 := bw7_3_4_a0_; unfold bd at h9_4; have h9_5 := b_5; unfold bd at h9_5; have h9_6 := b_16; unfold bd at h9_6; have h9_7 := b_2; unfold bd at h9_7; have h9_8 := b_20; unfold bd at h9_8; have h9_9 := b_27; unfold bd at h9_9; have h8_0 := kb_0; unfold bd at h8_0; have h8_1 := kb_1; unfold bd at h8_1; have h8_2 := kb_m1; unfold bd at h8_2; omega)⟩ hl9
          · have fc_15 := eq_f c_15
            have b_28 : bd (-1) (-1) x_14 := eqX fc_15 bx_14 kb_m1 (by decide)
            refine lv_iconst (v := 1) hx hb dX3_shorten_36 (by decide) ?_
            refine lv_goto (tgt := 41) hx hb dX3_shorten_37 (by decide) ?_
            refine lv_isub hx hb dX3_shorten_41 ?_
            refine lv_topi (fun y_29 ey_29 => ?_)
            have ty_29 := sub_bd ey_29 bw7_3_4_a0_ kb_1 (by decide)
            have b_30 : bd (-1) 2 y_29 := sub_rg ty_29 bw7_3_4_a0_ kb_1 (by decide)
            have hp_31 := wQ.pop (n := w7_3_0_a0_) (k := w7_3_4_a0_) (n1 := v7_2) (k1 := y_29) hw7 b_6.1 (by have h9_0 := bk_; unfold bd at h9_0; have h9_1 := bn_; unfold bd at h9_1; have h9_2 := b_6; unfold bd at h9_2; have h9_3 := bw7_3_0_a0_; unfold bd at h9_3; have h9_4 := bw7_3_4_a0_; unfold bd at h9_4; have h9_5 := b_5; unfold bd at h9_5; have h9_6 := b_28; unfold bd at h9_6; have h9_7 := b_2; unfold bd at h9_7; have h9_8 := b_30; unfold bd at h9_8; have h8_0 := kb_0; unfold bd at h8_0; have h8_1 := kb_1; unfold bd at h8_1; have h8_2 := kb_m1; unfold bd at h8_2; omega) (by have h8 : (Q_.1 v7_2.toNatClampNeg).toInt = _ := congrArg Int32.toInt vx_14.symm; split <;> (have h9_0 := bk_; unfold bd at h9_0; have h9_1 := bn_; unfold bd at h9_1; have h9_2 := b_6; unfold bd at h9_2; have h9_3 := bw7_3_0_a0_; unfold bd at h9_3; have h9_4 := bw7_3_4_a0_; unfold bd at h9_4; have h9_5 := b_5; unfold bd at h9_5; have h9_6 := b_28; unfold bd at h9_6; have h9_7 := b_2; unfold bd at h9_7; have h9_8 := b_30; unfold bd at h9_8; have h8_0 := kb_0; unfold bd at h8_0; have h8_1 := kb_1; unfold bd at h8_1; have h8_2 := kb_m1; unfold bd at h8_2; omega))
            have b_32 : bd 0 3 y_29 := ⟨hp_31.2, (by have h9_0 := bk_; unfold bd at h9_0; have h9_1 := bn_; unfold bd at h9_1; have h9_2 := b_6; unfold bd at h9_2; have h9_3 := bw7_3_0_a0_; unfold bd at h9_3; have h9_4 := bw7_3_4_a0_; unfold bd at h9_4; have h9_5 := b_5; unfold bd at h9_5; have h9_6 := b_28; unfold bd at h9_6; have h9_7 := b_2; unfold bd at h9_7; have h9_8 := b_30; unfold bd at h9_8; have h8_0 := kb_0; unfold bd at h8_0; have h8_1 := kb_1; unfold bd at h8_1; have h8_2 := kb_m1; unfold bd at h8_2; omega)⟩
            have b_33 : bd 1 3 w7_3_4_a0_ := sub_inv ty_29 b_32 bw7_3_4_a0_ kb_1 (by decide)
            have go_ := g
            refine g_putX (C := RX3) (T := TX3) (N := 6) hx hb hts (mc_ inX3) tyX3 tyX3_ok nmX3 hown hK g ma0_ ka0_ (by decide) rfl 4 (by decide) (hts _ (List.mem_cons_of_mem _ t_813)) (fun _ h9 => h9) rfl rfl (okV_i b_32) rfl rfl (by decide) (Or.inr (Or.inl (by decide))) (fx' := [(3, 0, a0_, .int v7_2), (3, 2, a0_, .ref m_), (3, 3, a0_, .ref p_)]) rfl dX3_shorten_42 (fun f H locs hM_34 u_37 g => ?_)
            have hG_35 := isQ.frame hM_34 go_.2.2.2.1 ma0_ ka0_ (by decide) (by decide) hG_10
            have hG_36 := arP.frame hM_34 go_.2.2.2.1 mp_ kp_ (by decide) (by decide) hG_11
            have hU_38 := QR.fld hU_13 u_37 ka0_
            obtain ⟨y_39, ey_39⟩ : ∃ z : Int32, z = v7_2 + (-1) := ⟨_, rfl⟩
            refine lv_iinc (v := y_39) (lv' := [(2, .int y_39), (0, .ref a0_), (1, .int x1_)]) hx hb dX3_shorten_45 hl (k := 0) rfl (by rw [ey_39]; rfl) (by decide) rfl (fun ls hl => ?_)
            have ty_39 := add_bd ey_39 b_6 kb_m1 (by decide)
            have b_40 : bd (-1) 8 y_39 := add_rg ty_39 b_6 kb_m1 (by decide)
            refine lv_goto (tgt := 7) hx hb dX3_shorten_48 (by decide) ?_
            have hl9 := lv_sub hl [0, 1, 2] (by rfl : lv_pick [(2, .int y_39), (0, .ref a0_), (1, .int x1_)] [0, 1, 2] = [(2, .int y_39), (0, .ref a0_), (1, .int x1_)])
            have g9 := g.sub (fx' := [(3, 0, a0_, .int v7_2), (3, 4, a0_, .int y_29), (3, 2, a0_, .ref m_), (3, 3, a0_, .ref p_)]) [1, 0, 2, 3] rfl
            exact ih7  y_39 v7_2 y_29 (bd_sub b_40 (by decide)) (bd_sub b_6 (by decide)) b_32 (by have h9_0 := b_32; unfold bd at h9_0; have h9_1 := b_40; unfold bd at h9_1; have h9_2 := b_6; unfold bd at h9_2; have h9_3 := bv7_2; unfold bd at h9_3; have h9_4 := bw7_3_0_a0_; unfold bd at h9_4; have h9_5 := bw7_3_4_a0_; unfold bd at h9_5; have h9_6 := kb_0; unfold bd at h9_6; have h9_7 := kb_1; unfold bd at h9_7; have h9_8 := kb_m1; unfold bd at h9_8; omega) _ _ _ _ g9 ⟨hG_35, hG_36, hU_38, hp_31.1, (by have h9_0 := bk_; unfold bd at h9_0; have h9_1 := bn_; unfold bd at h9_1; have h9_2 := b_6; unfold bd at h9_2; have h9_3 := bw7_3_0_a0_; unfold bd at h9_3; have h9_4 := b_33; unfold bd at h9_4; have h9_5 := b_5; unfold bd at h9_5; have h9_6 := b_28; unfold bd at h9_6; have h9_7 := b_2; unfold bd at h9_7; have h9_8 := b_32; unfold bd at h9_8; have h9_9 := b_40; unfold bd at h9_9; have h8_0 := kb_0; unfold bd at h8_0; have h8_1 := kb_1; unfold bd at h8_1; have h8_2 := kb_m1; unfold bd at h8_2; omega), (by have h9_0 := bk_; unfold bd at h9_0; have h9_1 := bn_; unfold bd at h9_1; have h9_2 := b_6; unfold bd at h9_2; have h9_3 := bw7_3_0_a0_; unfold bd at h9_3; have h9_4 := b_33; unfold bd at h9_4; have h9_5 := b_5; unfold bd at h9_5; have h9_6 := b_28; unfold bd at h9_6; have h9_7 := b_2; unfold bd at h9_7; have h9_8 := b_32; unfold bd at h9_8; have h9_9 := b_40; unfold bd at h9_9; have h8_0 := kb_0; unfold bd at h8_0; have h8_1 := kb_1; unfold bd at h8_1; have h8_2 := kb_m1; unfold bd at h8_2; omega), (by have h9_0 := bk_; unfold bd at h9_0; have h9_1 := bn_; unfold bd at h9_1; have h9_2 := b_6; unfold bd at h9_2; have h9_3 := bw7_3_0_a0_; unfold bd at h9_3; have h9_4 := b_33; unfold bd at h9_4; have h9_5 := b_5; unfold bd at h9_5; have h9_6 := b_28; unfold bd at h9_6; have h9_7 := b_2; unfold bd at h9_7; have h9_8 := b_32; unfold bd at h9_8; have h9_9 := b_40; unfold bd at h9_9; have h8_0 := kb_0; unfold bd at h8_0; have h8_1 := kb_1; unfold bd at h8_1; have h8_2 := kb_m1; unfold bd at h8_2; omega)⟩ hl9
  have hl9 := lv_sub hl [0, 1, 2] (by rfl : lv_pick [(2, .int y_1), (0, .ref a0_), (1, .int x1_)] [0, 1, 2] = [(2, .int y_1), (0, .ref a0_), (1, .int x1_)])
  have g9 := g.sub (fx' := [(3, 0, a0_, .int n_), (3, 4, a0_, .int k_), (3, 2, a0_, .ref m_), (3, 3, a0_, .ref p_)]) [0, 1, 2, 3] rfl
  exact loop_3 (23) y_1 n_ k_ b_2 bn_ bk_ (by have h9_0 := b_2; unfold bd at h9_0; have h9_1 := bk_; unfold bd at h9_1; have h9_2 := bn_; unfold bd at h9_2; have h9_3 := kb_1; unfold bd at h9_3; omega) _ _ _ _ g9 ⟨hQ_, hJ_, hU_0, hw, (by have h9_0 := bk_; unfold bd at h9_0; have h9_1 := bn_; unfold bd at h9_1; have h9_2 := bx1_; unfold bd at h9_2; have h9_3 := b_2; unfold bd at h9_3; have h8_0 := kb_1; unfold bd at h8_0; omega), (by have h9_0 := bk_; unfold bd at h9_0; have h9_1 := bn_; unfold bd at h9_1; have h9_2 := bx1_; unfold bd at h9_2; have h9_3 := b_2; unfold bd at h9_3; have h8_0 := kb_1; unfold bd at h8_0; omega), (by have h9_0 := bk_; unfold bd at h9_0; have h9_1 := bn_; unfold bd at h9_1; have h9_2 := bx1_; unfold bd at h9_2; have h9_3 := b_2; unfold bd at h9_3; have h8_0 := kb_1; unfold bd at h8_0; omega)⟩ hl9
set_option maxHeartbeats 4000000 in
set_option maxRecDepth 100000 in
theorem r_X3_roomForMakeQ (l : Launch) (dC : Nat → ClassId) (dI : Nat → Nat → Nat) (L : List Nat) (kd : Nat → Nat) (tys : List (ClassId × FieldType)) (f0 : Nat → va_E) (sz : Nat) (hWT : WT L kd tys f0) (a0_ : Nat) (ma0_ : a0_ ∈ L) (ka0_ : kd a0_ = 3) (p_ : Nat) (mp_ : p_ ∈ L) (kp_ : kd p_ = 124) (m_ : Nat) (mm_ : m_ ∈ L) (km_ : kd m_ = 123) (A_ : Nat → Nat) (Q_ : RQ) (n_ : Int32) (bn_ : bd 0 10 n_) (k_ : Int32) (bk_ : bd 0 3 k_) (hJ_ : arP f0 p_ A_) (hQ_ : isQ L kd f0 m_ A_ Q_) (hfx : Fs L kd f0 [(3, 0, a0_, .int n_), (3, 4, a0_, .int k_), (3, 2, a0_, .ref m_), (3, 3, a0_, .ref p_)]) : Met l yX3_roomForMake (.code yX3_roomForMake cX3_roomForMake 1 (some .boolean) :: lw_g) ({ frames := 0, cells := 0, slots := 0, locals := 0 }) (va_Pc [.ref a0_] (P3 (dC, dI) L tys f0 sz)) (va_Qi (fun (r : Int32) (f : Nat → va_E) => ((rowT L kd f0 f a0_ m_ A_ (fun Q1 n1 k1 => Q1 = Q_ ∧ n1 = n_ ∧ k1 = k_ ∧ (r.toInt = 1 → n_.toInt < 10 ∧ k_.toInt < 3))) ∧ bd 0 1 r ∧ True)) (Q3 (dC, dI) L kd tys [] [] f0 sz) (pA L sz)) 0 0 (pA L sz) := by
  refine Met.ofW (cc := cX3_roomForMake) (maxL := 1) (ret := (some .boolean)) (by decide) rfl ?_
  intro p e s m args below meth c s₁ B hml hv
  obtain ⟨rfl, hsz, hP, hK, hD0⟩ := hv
  have hx := B.exec
  have hb := B.bytes
  have hr := B.returns
  have hts := atoms_spec (ws := (.code yX3_roomForMake cX3_roomForMake 1 (some .boolean) :: lw_g)) B.pre
  have hown : s.vm.findClass RX3 = some m.cls := findClass_of_methodNamed B.named
  have hlocks := B.notSynchronized
  subst hsz
  have g : G3 (dC, dI) L kd tys s f0 [] [] f0 s.heap [] [(3, 0, a0_, .int n_), (3, 4, a0_, .int k_), (3, 2, a0_, .ref m_), (3, 3, a0_, .ref p_)] := G3.start hP hD0 hWT hfx
  have hl := lv_entry ([.ref a0_]) (n := 1) (Nat.le_of_ble_eq_true rfl)
  rw [lg_entry_eq]
  generalize (lg_sl ([.ref a0_]) ++ List.replicate (1 - (lg_sl ([.ref a0_])).length) Slot.unset).toArray = ls at hl ⊢
  have hl : lv_has ls 1 [(0, .ref a0_)] := hl
  refine W_q (fun Q hQ => ?_)
  have hU_0 : QR L kd f0 f0 a0_ m_ A_ := QR.refl
  refine lv_aload_n hx hb dX3_roomForMake_0 rfl (lv_at hl 0 rfl) ?_
  refine g_getk (C := RX3) (T := TX3) (N := 6) hx hb hts (mc_ inX3) hown hK g rfl 0 (by decide) rfl (hts _ (List.mem_cons_of_mem _ t_801)) (fun _ h9 => h9) 0 rfl dX3_roomForMake_1 ?_
  refine lv_bipush (v := 10) hx hb dX3_roomForMake_4 (by decide) ?_
  have kb_10 : bd 10 10 (10 : Int32) := ⟨by decide, by decide⟩
  refine lv_icmp_ge (tgt := 21) hx hb dX3_roomForMake_6 (by decide) (fun c_1 => ?_) (fun c_1 => ?_)
  · have fc_1 := le_f c_1
    have b_2 : bd 10 10 n_ := leR fc_1 kb_10 bn_ (by decide)
    refine lv_iconst (v := 0) hx hb dX3_roomForMake_21 (by decide) ?_
    have kb_0 : bd 0 0 (0 : Int32) := ⟨by decide, by decide⟩
    subst hQ
    exact W.zret (v := 0) hx hb hr (nar_z (bd_sub kb_0 (by decide) : bd 0 1 _).1 (bd_sub kb_0 (by decide) : bd 0 1 _).2) (fun t ht hW => ⟨⟨_, _, rfl, ⟨⟨Q_, n_, k_, hQ_, hU_0, (fx_at g (i := 0) rfl).2.2.2, (fx_at g (i := 1) rfl).2.2.2, (bd_sub b_2 (by decide)), bk_, ⟨rfl, rfl, rfl, (fun h9 => absurd h9 (by decide))⟩⟩, (bd_sub kb_0 (by decide)), trivial⟩, q3_of g hK ht hW⟩, g.2.2.1.F ht⟩) g.2.2.1.2.2 dX3_roomForMake_22
  · have fc_1 := nle_f c_1
    have b_3 : bd 0 9 n_ := ltL fc_1 bn_ kb_10 (by decide)
    refine lv_aload_n hx hb dX3_roomForMake_9 rfl (lv_at hl 0 rfl) ?_
    refine g_getk (C := RX3) (T := TX3) (N := 6) hx hb hts (mc_ inX3) hown hK g rfl 4 (by decide) rfl (hts _ (List.mem_cons_of_mem _ t_813)) (fun _ h9 => h9) 1 rfl dX3_roomForMake_10 ?_
    refine lv_iconst (v := 3) hx hb dX3_roomForMake_13 (by decide) ?_
    have kb_3 : bd 3 3 (3 : Int32) := ⟨by decide, by decide⟩
    refine lv_icmp_ge (tgt := 21) hx hb dX3_roomForMake_14 (by decide) (fun c_4 => ?_) (fun c_4 => ?_)
    · have fc_4 := le_f c_4
      have b_5 : bd 3 3 k_ := leR fc_4 kb_3 bk_ (by decide)
      refine lv_iconst (v := 0) hx hb dX3_roomForMake_21 (by decide) ?_
      have kb_0 : bd 0 0 (0 : Int32) := ⟨by decide, by decide⟩
      subst hQ
      exact W.zret (v := 0) hx hb hr (nar_z (bd_sub kb_0 (by decide) : bd 0 1 _).1 (bd_sub kb_0 (by decide) : bd 0 1 _).2) (fun t ht hW => ⟨⟨_, _, rfl, ⟨⟨Q_, n_, k_, hQ_, hU_0, (fx_at g (i := 0) rfl).2.2.2, (fx_at g (i := 1) rfl).2.2.2, (bd_sub b_3 (by decide)), (bd_sub b_5 (by decide)), ⟨rfl, rfl, rfl, (fun h9 => absurd h9 (by decide))⟩⟩, (bd_sub kb_0 (by decide)), trivial⟩, q3_of g hK ht hW⟩, g.2.2.1.F ht⟩) g.2.2.1.2.2 dX3_roomForMake_22
    · have fc_4 := nle_f c_4
      have b_6 : bd 0 2 k_ := ltL fc_4 bk_ kb_3 (by decide)
      refine lv_iconst (v := 1) hx hb dX3_roomForMake_17 (by decide) ?_
      refine lv_goto (tgt := 22) hx hb dX3_roomForMake_18 (by decide) ?_
      have kb_1 : bd 1 1 (1 : Int32) := ⟨by decide, by decide⟩
      subst hQ
      exact W.zret (v := 1) hx hb hr (nar_z (bd_sub kb_1 (by decide) : bd 0 1 _).1 (bd_sub kb_1 (by decide) : bd 0 1 _).2) (fun t ht hW => ⟨⟨_, _, rfl, ⟨⟨Q_, n_, k_, hQ_, hU_0, (fx_at g (i := 0) rfl).2.2.2, (fx_at g (i := 1) rfl).2.2.2, (bd_sub b_3 (by decide)), (bd_sub b_6 (by decide)), ⟨rfl, rfl, rfl, (fun _ => ⟨(by have h9_0 := b_6; unfold bd at h9_0; have h9_1 := b_3; unfold bd at h9_1; have h8_0 := kb_10; unfold bd at h8_0; have h8_1 := kb_3; unfold bd at h8_1; omega), (by have h9_0 := b_6; unfold bd at h9_0; have h9_1 := b_3; unfold bd at h9_1; have h8_0 := kb_10; unfold bd at h8_0; have h8_1 := kb_3; unfold bd at h8_1; omega)⟩)⟩⟩, (bd_sub kb_1 (by decide)), trivial⟩, q3_of g hK ht hW⟩, g.2.2.1.F ht⟩) g.2.2.1.2.2 dX3_roomForMake_22
set_option maxHeartbeats 4000000 in
set_option maxRecDepth 100000 in
theorem r_X3_tellingOf_2 (l : Launch) (dC : Nat → ClassId) (dI : Nat → Nat → Nat) (L : List Nat) (kd : Nat → Nat) (tys : List (ClassId × FieldType)) (f0 : Nat → va_E) (sz : Nat) (hWT : WT L kd tys f0) (a0_ : Nat) (ma0_ : a0_ ∈ L) (ka0_ : kd a0_ = 3) (a1_ : Nat) (ma1_ : a1_ ∈ L) (ka1_ : kd a1_ = 7) (x2_ : Int32) (bx2_ : bd 0 2 x2_) (x3_ : Int32) (bx3_ : bd 0 11 x3_) : Met l yX3_tellingOf (.code yX3_tellingOf cX3_tellingOf 4 (some (.object "TrialGarden$Telling")) :: lw_g) ({ frames := 0, cells := 0, slots := 0, locals := 0 }) (va_Pc [.ref a0_, .ref a1_, .int x2_, .int x3_] (P3 (dC, dI) L tys f0 sz)) (va_Qr (fun (_ : Nat → va_E) => True) (fun u b t => (b ∈ L ∧ kd b = 6) ∧ Q3 (dC, dI) L kd tys [] [] f0 sz u t) (pA L sz)) 0 0 (pA L sz) := by
  refine Met.ofW (cc := cX3_tellingOf) (maxL := 4) (ret := (some (.object "TrialGarden$Telling"))) (by decide) rfl ?_
  intro p e s m args below meth c s₁ B hml hv
  obtain ⟨rfl, hsz, hP, hK, hD0⟩ := hv
  have hx := B.exec
  have hb := B.bytes
  have hr := B.returns
  have hts := atoms_spec (ws := (.code yX3_tellingOf cX3_tellingOf 4 (some (.object "TrialGarden$Telling")) :: lw_g)) B.pre
  have hown : s.vm.findClass RX3 = some m.cls := findClass_of_methodNamed B.named
  have hlocks := B.notSynchronized
  subst hsz
  have g : G3 (dC, dI) L kd tys s f0 [] [] f0 s.heap [] [] := G3.start hP hD0 hWT Fs.nil
  have hl := lv_entry ([.ref a0_, .ref a1_, .int x2_, .int x3_]) (n := 4) (Nat.le_of_ble_eq_true rfl)
  rw [lg_entry_eq]
  generalize (lg_sl ([.ref a0_, .ref a1_, .int x2_, .int x3_]) ++ List.replicate (4 - (lg_sl ([.ref a0_, .ref a1_, .int x2_, .int x3_])).length) Slot.unset).toArray = ls at hl ⊢
  have hl : lv_has ls 4 [(0, .ref a0_), (1, .ref a1_), (2, .int x2_), (3, .int x3_)] := hl
  refine W_q (fun Q hQ => ?_)
  refine lv_aload_n hx hb dX3_tellingOf_0 rfl (lv_at hl 1 rfl) ?_
  refine g_getr (K := 137) (C := RX7) (T := TX7) (N := 19) hx hb hts (mc_ inX7) hown hK g ma1_ ka1_ (by decide) rfl 2 (by decide) rfl (hts _ (List.mem_cons_of_mem _ t_631)) (fun _ h9 => h9) rfl dX3_tellingOf_1 (fun a_1 ma_1 ka_1 g => ?_)
  refine lv_aload_n hx hb dX3_tellingOf_4 rfl (lv_at hl 1 rfl) ?_
  refine g_getr (K := 136) (C := RX7) (T := TX7) (N := 19) hx hb hts (mc_ inX7) hown hK g ma1_ ka1_ (by decide) rfl 0 (by decide) rfl (hts _ (List.mem_cons_of_mem _ t_622)) (fun _ h9 => h9) rfl dX3_tellingOf_5 (fun a_2 ma_2 ka_2 g => ?_)
  refine lv_aload_n hx hb dX3_tellingOf_8 rfl (lv_at hl 0 rfl) ?_
  refine g_getr (K := 125) (C := RX3) (T := TX3) (N := 6) hx hb hts (mc_ inX3) hown hK g ma0_ ka0_ (by decide) rfl 5 (by decide) rfl (hts _ (List.mem_cons_of_mem _ t_815)) (fun _ h9 => h9) rfl dX3_tellingOf_9 (fun a_3 ma_3 ka_3 g => ?_)
  refine lv_iload_n hx hb dX3_tellingOf_12 rfl (lv_at hl 2 rfl) ?_
  refine g_iald hx hb hK g ma_3 ka_3 (by decide) rfl (in_bd bx2_ (by decide)) dX3_tellingOf_13 (fun x_4 bx_4 cx_4 => ?_)
  refine g_aald hx hb hK g ma_2 ka_2 (by decide) rfl (by decide) (in_bd bx_4 (by decide)) dX3_tellingOf_14 (fun a_5 ma_5 ua_5 wa_5 => ?_)
  have ka_5 : kd a_5 = 9 := by omega
  refine g_getr (K := 156) (C := RX9) (T := TX9) (N := 13) hx hb hts (mc_ inX9) hown hK g ma_5 ka_5 (by decide) rfl 9 (by decide) rfl (hts _ (List.mem_cons_of_mem _ t_505)) (fun _ h9 => h9) rfl dX3_tellingOf_15 (fun a_6 ma_6 ka_6 g => ?_)
  refine lv_iload_n hx hb dX3_tellingOf_18 rfl (lv_at hl 3 rfl) ?_
  refine g_iald hx hb hK g ma_6 ka_6 (by decide) rfl (in_bd bx3_ (by decide)) dX3_tellingOf_19 (fun x_7 bx_7 cx_7 => ?_)
  refine g_aald hx hb hK g ma_1 ka_1 (by decide) rfl (by decide) (in_bd bx_7 (by decide)) dX3_tellingOf_20 (fun a_8 ma_8 ua_8 wa_8 => ?_)
  have ka_8 : kd a_8 = 6 := by omega
  subst hQ
  exact W.aret (v := .ref a_8) hx hb hr (Or.inl ⟨_, rfl⟩) (Or.inr ⟨_, rfl⟩) (fun t ht hW => ⟨⟨_, _, rfl, trivial, ⟨ma_8, ka_8⟩, q3_of g hK ht hW⟩, g.2.2.1.F ht⟩) g.2.2.1.2.2 dX3_tellingOf_21
set_option maxHeartbeats 4000000 in
set_option maxRecDepth 100000 in
theorem r_X3_lowerArgumentsQ (l : Launch) (dC : Nat → ClassId) (dI : Nat → Nat → Nat) (L : List Nat) (kd : Nat → Nat) (tys : List (ClassId × FieldType)) (f0 : Nat → va_E) (sz : Nat) (hWT : WT L kd tys f0) (a0_ : Nat) (ma0_ : a0_ ∈ L) (ka0_ : kd a0_ = 3) (p_ : Nat) (mp_ : p_ ∈ L) (kp_ : kd p_ = 124) (m_ : Nat) (mm_ : m_ ∈ L) (km_ : kd m_ = 123) (A_ : Nat → Nat) (Q_ : RQ) (n_ : Int32) (bn_ : bd 0 10 n_) (k_ : Int32) (bk_ : bd 0 3 k_) (hJ_ : arP f0 p_ A_) (hQ_ : isQ L kd f0 m_ A_ Q_) (hw : wQ Q_ n_ k_) (x1_ : Nat) (mx1_ : x1_ ∈ L) (kx1_ : kd x1_ = 7) (x2_ : Int32) (bx2_ : bd 0 9 x2_) (x3_ : Int32) (bx3_ : bd 0 3 x3_) (hm0 : 0 ≤ (Q_.1 x2_.toNatClampNeg).toInt) (hfx : Fs L kd f0 [(3, 0, a0_, .int n_), (3, 4, a0_, .int k_), (3, 2, a0_, .ref m_), (3, 3, a0_, .ref p_)]) : Met l yX3_lowerArguments (.code yX3_lowerArguments cX3_lowerArguments 6 none :: lw_g) ({ frames := 1, cells := 0, slots := 0, locals := 23 }) (va_Pc [.ref a0_, .ref x1_, .int x2_, .int x3_] (P3 (dC, dI) L tys f0 sz)) (va_Qv (fun (f : Nat → va_E) => ((rowT L kd f0 f a0_ m_ A_ (fun Q1 n1 k1 => wQ Q1 n1 k1 ∧ Q1.1 = Q_.1 ∧ n1 = n_ ∧ k1 = k_)) ∧ True)) (Q3 (dC, dI) L kd tys [] [103] f0 sz) (pA L sz)) 0 0 (pA L sz) := by
  refine Met.ofW (cc := cX3_lowerArguments) (maxL := 6) (ret := none) (by decide) rfl ?_
  intro p e s m args below meth c s₁ B hml hv
  obtain ⟨rfl, hsz, hP, hK, hD0⟩ := hv
  have hx := B.exec
  have hb := B.bytes
  have hr := B.returns
  have hts := atoms_spec (ws := (.code yX3_lowerArguments cX3_lowerArguments 6 none :: lw_g)) B.pre
  have hown : s.vm.findClass RX3 = some m.cls := findClass_of_methodNamed B.named
  have hlocks := B.notSynchronized
  subst hsz
  have g : G3 (dC, dI) L kd tys s f0 [] [103] f0 s.heap [] [(3, 0, a0_, .int n_), (3, 4, a0_, .int k_), (3, 2, a0_, .ref m_), (3, 3, a0_, .ref p_)] := G3.start hP hD0 hWT hfx
  have hl := lv_entry ([.ref a0_, .ref x1_, .int x2_, .int x3_]) (n := 6) (Nat.le_of_ble_eq_true rfl)
  rw [lg_entry_eq]
  generalize (lg_sl ([.ref a0_, .ref x1_, .int x2_, .int x3_]) ++ List.replicate (6 - (lg_sl ([.ref a0_, .ref x1_, .int x2_, .int x3_])).length) Slot.unset).toArray = ls at hl ⊢
  have hl : lv_has ls 6 [(0, .ref a0_), (1, .ref x1_), (2, .int x2_), (3, .int x3_)] := hl
  refine W_q (fun Q hQ => ?_)
  have hU_0 : QR L kd f0 f0 a0_ m_ A_ := QR.refl
  have he_0 : Q_.1 = Q_.1 := rfl
  refine lv_aload_n hx hb dX3_lowerArguments_0 rfl (lv_at hl 0 rfl) ?_
  refine lv_aload_n hx hb dX3_lowerArguments_1 rfl (lv_at hl 1 rfl) ?_
  refine lv_aload_n hx hb dX3_lowerArguments_2 rfl (lv_at hl 0 rfl) ?_
  refine g_getr (K := 122) (C := RX3) (T := TX3) (N := 6) hx hb hts (mc_ inX3) hown hK g ma0_ ka0_ (by decide) rfl 1 (by decide) rfl (hts _ (List.mem_cons_of_mem _ t_804)) (fun _ h9 => h9) rfl dX3_lowerArguments_3 (fun a_1 ma_1 ka_1 g => ?_)
  refine lv_iload_n hx hb dX3_lowerArguments_6 rfl (lv_at hl 2 rfl) ?_
  refine g_iald hx hb hK g ma_1 ka_1 (by decide) rfl (in_bd bx2_ (by decide)) dX3_lowerArguments_7 (fun x_2 bx_2 cx_2 => ?_)
  refine lv_aload_n hx hb dX3_lowerArguments_8 rfl (lv_at hl 0 rfl) ?_
  refine g_getk (C := RX3) (T := TX3) (N := 6) hx hb hts (mc_ inX3) hown hK g rfl 2 (by decide) rfl (hts _ (List.mem_cons_of_mem _ t_807)) (fun _ h9 => h9) 3 rfl dX3_lowerArguments_9 ?_
  refine lv_iload_n hx hb dX3_lowerArguments_12 rfl (lv_at hl 2 rfl) ?_
  refine g_iald hx hb hK g mm_ km_ (by decide) rfl (in_bd bx2_ (by decide)) dX3_lowerArguments_13 (fun x_3 bx_3 cx_3 => ?_)
  have vx_3 : x_3 = Q_.1 x2_.toNatClampNeg := cx_3.trans (hQ_.2.2.2.2.1 _)
  have b_4 : bd 0 11 x_3 := ⟨(by rw [vx_3]; exact hm0), bx_3.2⟩
  have go_ := g
  refine g_callr (va_runV (As := [.ref x1_, .int x_2, .int x_3]) (rest := []) ⟨hx, hb, hml, hown, hts⟩ (r_X3_tellingOf_2 l dC dI L kd tys f0 s.heap.size g.2.2.2.1 a0_ ma0_ ka0_ x1_ mx1_ kx1_ x_2 bx_2 x_3 b_4) (cwV 3 hts (gV_ t_1498 t_1500 t_53 t_196 t_1501) rfl rfl rfl (by decide +kernel) ⟨(Nat.le_of_ble_eq_true rfl), (Nat.le_of_ble_eq_true rfl)⟩) (pre3V g hK ma0_ ka0_ (by decide) (q := (RX3, TX3, 6)) rfl) rfl rfl hl.1 rfl (lv_room (Nat.le_of_ble_eq_true rfl)) dX3_lowerArguments_14 ⟨(Nat.le_of_ble_eq_true rfl), (Nat.le_of_ble_eq_true rfl)⟩) g hK (by decide) (by decide) (fx' := [(3, 1, a0_, .ref a_1), (3, 0, a0_, .int n_), (3, 4, a0_, .int k_), (3, 2, a0_, .ref m_), (3, 3, a0_, .ref p_)]) rfl (fun r_5 fr_5 H locs hp hMr_5 g => ?_)
  have hG_6 := isQ.frame hMr_5 go_.2.2.2.1 ma0_ ka0_ (by decide) (by decide) hQ_
  have hG_7 := arP.frame hMr_5 go_.2.2.2.1 mp_ kp_ (by decide) (by decide) hJ_
  have hG_8 := QR.frame hMr_5 go_.2.2.2.1 ma0_ ka0_ (by decide) (by decide) hU_0
  obtain ⟨mr_5, kr_5⟩ := hp
  refine lv_astore (lv' := [(4, .ref r_5), (0, .ref a0_), (1, .ref x1_), (2, .int x2_), (3, .int x3_)]) hx hb dX3_lowerArguments_17 hl (by decide) rfl (fun ls hl => ?_)
  refine lv_iload_n hx hb dX3_lowerArguments_19 rfl (lv_at hl 4 rfl) ?_
  refine lv_istore (lv' := [(5, .int x3_), (4, .ref r_5), (0, .ref a0_), (1, .ref x1_), (2, .int x2_), (3, .int x3_)]) hx hb dX3_lowerArguments_20 hl (by decide) rfl (fun ls hl => ?_)
  have loop_9 : ∀ (n : Nat) (v22_5 : Int32), bd 0 3 v22_5 → (3 - v22_5.toInt < (n : Int)) → ∀ (f : Nat → va_E) (H : Heap) (locs : List Loc) (ls : Array Slot), G3 (dC, dI) L kd tys s f0 [] [103] f H locs [(3, 1, a0_, .ref a_1), (3, 0, a0_, .int n_), (3, 4, a0_, .int k_), (3, 2, a0_, .ref m_), (3, 3, a0_, .ref p_)] → (∃ Q1 : RQ, isQ L kd f m_ A_ Q1 ∧ arP f p_ A_ ∧ QR L kd f0 f a0_ m_ A_ ∧ wQ Q1 n_ k_ ∧ Q1.1 = Q_.1) → lv_has ls 6 [(5, .int v22_5), (4, .ref r_5), (0, .ref a0_), (1, .ref x1_), (2, .int x2_), (3, .int x3_)] → W p l e ({ frames := 1, cells := 0, slots := 0, locals := 23 } : Room) s m [.ref a0_, .ref x1_, .int x2_, .int x3_].toArray below meth c H locs 0 0 Q (F0 m 22 ls []) := by
    intro n22
    induction n22 with
    | zero =>
      intro v22_5 bv22_5 hm22 f H locs ls g  ⟨Q22, hQ22, hJ22, hU22, hw22, he22⟩ hl
      exact absurd hm22 (by have h9_v22_5 := bv22_5; unfold bd at h9_v22_5; omega)
    | succ n22 ih22 =>
      intro v22_5 bv22_5 hm22 f H locs ls g  ⟨Q22, hQ22, hJ22, hU22, hw22, he22⟩ hl
      refine lv_iload hx hb dX3_lowerArguments_22 (lv_at hl 0 rfl) ?_
      refine lv_iconst (v := 3) hx hb dX3_lowerArguments_24 (by decide) ?_
      have kb_3 : bd 3 3 (3 : Int32) := ⟨by decide, by decide⟩
      refine lv_icmp_ge (tgt := 65) hx hb dX3_lowerArguments_25 (by decide) (fun c_10 => ?_) (fun c_10 => ?_)
      · have fc_10 := le_f c_10
        have b_11 : bd 3 3 v22_5 := leR fc_10 kb_3 bv22_5 (by decide)
        subst hQ
        exact W.vret hx hb hr (fun t ht hW => ⟨⟨_, rfl, ⟨⟨Q22, n_, k_, hQ22, hU22, (fx_at g (i := 1) rfl).2.2.2, (fx_at g (i := 2) rfl).2.2.2, bn_, bk_, ⟨hw22, he22, rfl, rfl⟩⟩, trivial⟩, q3_of g hK ht hW⟩, g.2.2.1.F ht⟩) g.2.2.1.2.2 dX3_lowerArguments_65
      · have fc_10 := nle_f c_10
        have b_12 : bd 0 2 v22_5 := ltL fc_10 bv22_5 kb_3 (by decide)
        refine lv_aload_n hx hb dX3_lowerArguments_28 rfl (lv_at hl 2 rfl) ?_
        refine g_getk (C := RX3) (T := TX3) (N := 6) hx hb hts (mc_ inX3) hown hK g rfl 3 (by decide) rfl (hts _ (List.mem_cons_of_mem _ t_810)) (fun _ h9 => h9) 4 rfl dX3_lowerArguments_29 ?_
        refine lv_iload_n hx hb dX3_lowerArguments_32 rfl (lv_at hl 4 rfl) ?_
        refine g_aaldX hx hb hK g mp_ kp_ (by decide) rfl (by decide) (in_bd bx2_ (by decide)) dX3_lowerArguments_33 (fun a_13 ea_13 ma_13 ua_13 wa_13 => ?_)
        have ka_13 : kd a_13 = 103 := by omega
        have lta_13 : x2_.toNatClampNeg < 10 := in_toNat (in_bd bx2_ (by decide))
        have qa_13 : a_13 = A_ x2_.toNatClampNeg := ea_13.trans (hJ22 _ lta_13)
        refine lv_iload hx hb dX3_lowerArguments_34 (lv_at hl 0 rfl) ?_
        refine lv_iload hx hb dX3_lowerArguments_36 (lv_at hl 0 rfl) ?_
        refine lv_aload hx hb dX3_lowerArguments_38 (lv_at hl 1 rfl) ?_
        refine g_geti (C := RX6) (T := TX6) (N := 13) hx hb hts (mc_ inX6) hown hK g mr_5 kr_5 (by decide) rfl 3 (by decide) rfl (hts _ (List.mem_cons_of_mem _ t_565)) (fun _ h9 => h9) rfl dX3_lowerArguments_40 (fun x_14 bx_14 g => ?_)
        refine lv_icmp_ge (tgt := 57) hx hb dX3_lowerArguments_43 (by decide) (fun c_15 => ?_) (fun c_15 => ?_)
        · have fc_15 := le_f c_15
          have b_16 : bd 0 2 x_14 := leL fc_15 bx_14 b_12 (by decide)
          refine lv_iconst (v := 0) hx hb dX3_lowerArguments_57 (by decide) ?_
          have kb_0 : bd 0 0 (0 : Int32) := ⟨by decide, by decide⟩
          have go_ := g
          refine g_iastX hx hb hK g ma_13 ka_13 (by decide) rfl (in_bd b_12 (by decide)) (bd_sub kb_0 (by decide)) (by decide) dX3_lowerArguments_58 (fun f H locs hM_17 u_19 g => ?_)
          have hG_18 := arP.frame hM_17 go_.2.2.2.1 mp_ kp_ (by decide) (by decide) hJ22
          obtain ⟨y_22, hQ_20⟩ := isQ.ux hQ22 lta_13 qa_13 u_19.1
          have hU_21 := QR.arg hU22 lta_13 qa_13 u_19.1 ka_13
          have hw_23 : wQ (RQ.ua Q22 x2_.toNatClampNeg y_22) n_ k_ := wQ.arg hw22 (by rw [he22]; exact hm0)
          have kb_1 : bd 1 1 (1 : Int32) := ⟨by decide, by decide⟩
          obtain ⟨y_24, ey_24⟩ : ∃ z : Int32, z = v22_5 + 1 := ⟨_, rfl⟩
          refine lv_iinc (v := y_24) (lv' := [(5, .int y_24), (4, .ref r_5), (0, .ref a0_), (1, .ref x1_), (2, .int x2_), (3, .int x3_)]) hx hb dX3_lowerArguments_59 hl (k := 0) rfl (by rw [ey_24]; rfl) (by decide) rfl (fun ls hl => ?_)
          have ty_24 := add_bd ey_24 b_12 kb_1 (by decide)
          have b_25 : bd 1 3 y_24 := add_rg ty_24 b_12 kb_1 (by decide)
          refine lv_goto (tgt := 22) hx hb dX3_lowerArguments_62 (by decide) ?_
          have hl9 := lv_sub hl [0, 1, 2, 3, 4, 5] (by rfl : lv_pick [(5, .int y_24), (4, .ref r_5), (0, .ref a0_), (1, .ref x1_), (2, .int x2_), (3, .int x3_)] [0, 1, 2, 3, 4, 5] = [(5, .int y_24), (4, .ref r_5), (0, .ref a0_), (1, .ref x1_), (2, .int x2_), (3, .int x3_)])
          have g9 := g.sub (fx' := [(3, 1, a0_, .ref a_1), (3, 0, a0_, .int n_), (3, 4, a0_, .int k_), (3, 2, a0_, .ref m_), (3, 3, a0_, .ref p_)]) [1, 2, 3, 4, 5] rfl
          exact ih22  y_24 (bd_sub b_25 (by decide)) (by have h9_0 := b_25; unfold bd at h9_0; have h9_1 := bv22_5; unfold bd at h9_1; have h9_2 := kb_0; unfold bd at h9_2; have h9_3 := kb_1; unfold bd at h9_3; have h9_4 := kb_3; unfold bd at h9_4; omega) _ _ _ _ g9 ⟨_, hQ_20, hG_18, hU_21, hw_23, he22⟩ hl9
        · have fc_15 := nle_f c_15
          have b_26 : bd 1 3 x_14 := ltR fc_15 b_12 bx_14 (by decide)
          refine lv_aload hx hb dX3_lowerArguments_46 (lv_at hl 1 rfl) ?_
          refine g_getr (K := 134) (C := RX6) (T := TX6) (N := 13) hx hb hts (mc_ inX6) hown hK g mr_5 kr_5 (by decide) rfl 4 (by decide) rfl (hts _ (List.mem_cons_of_mem _ t_570)) (fun _ h9 => h9) rfl dX3_lowerArguments_48 (fun a_27 ma_27 ka_27 g => ?_)
          refine lv_iload hx hb dX3_lowerArguments_51 (lv_at hl 0 rfl) ?_
          refine g_iald hx hb hK g ma_27 ka_27 (by decide) rfl (in_bd b_12 (by decide)) dX3_lowerArguments_53 (fun x_28 bx_28 cx_28 => ?_)
          refine lv_goto (tgt := 58) hx hb dX3_lowerArguments_54 (by decide) ?_
          have go_ := g
          refine g_iastX hx hb hK g ma_13 ka_13 (by decide) rfl (in_bd b_12 (by decide)) (bdT x_28) (by decide) dX3_lowerArguments_58 (fun f H locs hM_29 u_31 g => ?_)
          have hG_30 := arP.frame hM_29 go_.2.2.2.1 mp_ kp_ (by decide) (by decide) hJ22
          obtain ⟨y_34, hQ_32⟩ := isQ.ux hQ22 lta_13 qa_13 u_31.1
          have hU_33 := QR.arg hU22 lta_13 qa_13 u_31.1 ka_13
          have hw_35 : wQ (RQ.ua Q22 x2_.toNatClampNeg y_34) n_ k_ := wQ.arg hw22 (by rw [he22]; exact hm0)
          have kb_1 : bd 1 1 (1 : Int32) := ⟨by decide, by decide⟩
          obtain ⟨y_36, ey_36⟩ : ∃ z : Int32, z = v22_5 + 1 := ⟨_, rfl⟩
          refine lv_iinc (v := y_36) (lv' := [(5, .int y_36), (4, .ref r_5), (0, .ref a0_), (1, .ref x1_), (2, .int x2_), (3, .int x3_)]) hx hb dX3_lowerArguments_59 hl (k := 0) rfl (by rw [ey_36]; rfl) (by decide) rfl (fun ls hl => ?_)
          have ty_36 := add_bd ey_36 b_12 kb_1 (by decide)
          have b_37 : bd 1 3 y_36 := add_rg ty_36 b_12 kb_1 (by decide)
          refine lv_goto (tgt := 22) hx hb dX3_lowerArguments_62 (by decide) ?_
          have hl9 := lv_sub hl [0, 1, 2, 3, 4, 5] (by rfl : lv_pick [(5, .int y_36), (4, .ref r_5), (0, .ref a0_), (1, .ref x1_), (2, .int x2_), (3, .int x3_)] [0, 1, 2, 3, 4, 5] = [(5, .int y_36), (4, .ref r_5), (0, .ref a0_), (1, .ref x1_), (2, .int x2_), (3, .int x3_)])
          have g9 := g.sub (fx' := [(3, 1, a0_, .ref a_1), (3, 0, a0_, .int n_), (3, 4, a0_, .int k_), (3, 2, a0_, .ref m_), (3, 3, a0_, .ref p_)]) [2, 3, 4, 5, 6] rfl
          exact ih22  y_36 (bd_sub b_37 (by decide)) (by have h9_0 := b_37; unfold bd at h9_0; have h9_1 := bv22_5; unfold bd at h9_1; have h9_2 := kb_1; unfold bd at h9_2; have h9_3 := kb_3; unfold bd at h9_3; omega) _ _ _ _ g9 ⟨_, hQ_32, hG_30, hU_33, hw_35, he22⟩ hl9
  have hl9 := lv_sub hl [0, 1, 2, 3, 4, 5] (by rfl : lv_pick [(5, .int x3_), (4, .ref r_5), (0, .ref a0_), (1, .ref x1_), (2, .int x2_), (3, .int x3_)] [0, 1, 2, 3, 4, 5] = [(5, .int x3_), (4, .ref r_5), (0, .ref a0_), (1, .ref x1_), (2, .int x2_), (3, .int x3_)])
  have g9 := g.sub (fx' := [(3, 1, a0_, .ref a_1), (3, 0, a0_, .int n_), (3, 4, a0_, .int k_), (3, 2, a0_, .ref m_), (3, 3, a0_, .ref p_)]) [0, 1, 2, 3, 4] rfl
  exact loop_9 (9) x3_ bx3_ (by have h9_0 := bx3_; unfold bd at h9_0; omega) _ _ _ _ g9 ⟨_, hG_6, hG_7, hG_8, hw, he_0⟩ hl9
set_option maxHeartbeats 4000000 in
set_option maxRecDepth 100000 in
theorem r_X3_fillFromQ (l : Launch) (dC : Nat → ClassId) (dI : Nat → Nat → Nat) (L : List Nat) (kd : Nat → Nat) (tys : List (ClassId × FieldType)) (f0 : Nat → va_E) (sz : Nat) (hWT : WT L kd tys f0) (a0_ : Nat) (ma0_ : a0_ ∈ L) (ka0_ : kd a0_ = 3) (p_ : Nat) (mp_ : p_ ∈ L) (kp_ : kd p_ = 124) (m_ : Nat) (mm_ : m_ ∈ L) (km_ : kd m_ = 123) (A_ : Nat → Nat) (Q_ : RQ) (n_ : Int32) (bn_ : bd 0 10 n_) (k_ : Int32) (bk_ : bd 0 3 k_) (hJ_ : arP f0 p_ A_) (hQ_ : isQ L kd f0 m_ A_ Q_) (hw : wQ Q_ n_ k_) (x1_ : Nat) (mx1_ : x1_ ∈ L) (kx1_ : kd x1_ = 7) (x2_ : Int32) (bx2_ : bd 0 7 x2_) (x3_ : Int32) (bx3_ : bd 0 10 x3_) (x4_ : Int32) (bx4_ : bd 0 10 x4_) (hf : x3_.toInt ≤ n_.toInt) (hfx : Fs L kd f0 [(3, 0, a0_, .int n_), (3, 4, a0_, .int k_), (3, 2, a0_, .ref m_), (3, 3, a0_, .ref p_)]) : Met l yX3_fillFrom (.code yX3_fillFrom cX3_fillFrom 6 (some .boolean) :: lw_g) ({ frames := 2, cells := 0, slots := 0, locals := 51 }) (va_Pc [.ref a0_, .ref x1_, .int x2_, .int x3_, .int x4_] (P3 (dC, dI) L tys f0 sz)) (va_Qi (fun (r : Int32) (f : Nat → va_E) => ((rowT L kd f0 f a0_ m_ A_ (fun Q1 n1 k1 => wQ Q1 n1 k1)) ∧ bd 0 1 r ∧ True)) (Q3 (dC, dI) L kd tys [(3, 0), (3, 4)] [103, 122, 123, 125] f0 sz) (pA L sz)) 0 0 (pA L sz) := by
  refine Met.ofW (cc := cX3_fillFrom) (maxL := 6) (ret := (some .boolean)) (by decide) rfl ?_
  intro p e s m args below meth c s₁ B hml hv
  obtain ⟨rfl, hsz, hP, hK, hD0⟩ := hv
  have hx := B.exec
  have hb := B.bytes
  have hr := B.returns
  have hts := atoms_spec (ws := (.code yX3_fillFrom cX3_fillFrom 6 (some .boolean) :: lw_g)) B.pre
  have hown : s.vm.findClass RX3 = some m.cls := findClass_of_methodNamed B.named
  have hlocks := B.notSynchronized
  subst hsz
  have g : G3 (dC, dI) L kd tys s f0 [(3, 0), (3, 4)] [103, 122, 123, 125] f0 s.heap [] [(3, 0, a0_, .int n_), (3, 4, a0_, .int k_), (3, 2, a0_, .ref m_), (3, 3, a0_, .ref p_)] := G3.start hP hD0 hWT hfx
  have hl := lv_entry ([.ref a0_, .ref x1_, .int x2_, .int x3_, .int x4_]) (n := 6) (Nat.le_of_ble_eq_true rfl)
  rw [lg_entry_eq]
  generalize (lg_sl ([.ref a0_, .ref x1_, .int x2_, .int x3_, .int x4_]) ++ List.replicate (6 - (lg_sl ([.ref a0_, .ref x1_, .int x2_, .int x3_, .int x4_])).length) Slot.unset).toArray = ls at hl ⊢
  have hl : lv_has ls 6 [(0, .ref a0_), (1, .ref x1_), (2, .int x2_), (3, .int x3_), (4, .int x4_)] := hl
  refine W_q (fun Q hQ => ?_)
  have hU_0 : QR L kd f0 f0 a0_ m_ A_ := QR.refl
  refine lv_aload_n hx hb dX3_fillFrom_0 rfl (lv_at hl 0 rfl) ?_
  refine lv_iload_n hx hb dX3_fillFrom_1 rfl (lv_at hl 3 rfl) ?_
  have go_ := g
  refine g_callv (va_runV (As := [.int x3_]) (rest := []) ⟨hx, hb, hml, hown, hts⟩ (r_X3_shortenQ l dC dI L kd tys f0 s.heap.size g.2.2.2.1 a0_ ma0_ ka0_ p_ mp_ kp_ m_ mm_ km_ A_ Q_ n_ bn_ k_ bk_ hJ_ hQ_ hw x3_ bx3_ (by have h9_0 := bk_; unfold bd at h9_0; have h9_1 := bn_; unfold bd at h9_1; have h9_2 := bx2_; unfold bd at h9_2; have h9_3 := bx3_; unfold bd at h9_3; have h9_4 := bx4_; unfold bd at h9_4; omega) (g.fcts [0, 1, 2, 3] rfl)) (cwV 1 hts (gV_ t_1719 t_1721 t_85 t_196 t_1722) rfl rfl rfl (by decide +kernel) ⟨(Nat.le_of_ble_eq_true rfl), (Nat.le_of_ble_eq_true rfl)⟩) (pre3V g hK ma0_ ka0_ (by decide) (q := (RX3, TX3, 6)) rfl) rfl rfl hl.1 rfl (lv_room (Nat.le_of_ble_eq_true rfl)) dX3_fillFrom_2 ⟨(Nat.le_of_ble_eq_true rfl), (Nat.le_of_ble_eq_true rfl)⟩) g hK (by decide) (by decide) (fx' := [(3, 2, a0_, .ref m_), (3, 3, a0_, .ref p_)]) rfl (fun fr_1 H locs hp hMr_1 g => ?_)
  obtain ⟨hx_2, -⟩ := hp
  have hG_3 := isQ.frame hMr_1 go_.2.2.2.1 ma0_ ka0_ (by decide) (by decide) hQ_
  have hG_4 := arP.frame hMr_1 go_.2.2.2.1 mp_ kp_ (by decide) (by decide) hJ_
  obtain ⟨Q_5, n_6, k_7, hQ_8, hU_9, h0_10, h4_11, b0_12, b4_13, hP_14⟩ := hx_2
  have hU_15 := QR.tr hU_0 hU_9
  have g := G3.add g ma0_ ka0_ (by decide) h0_10
  have g := G3.add g ma0_ ka0_ (by decide) h4_11
  have hz_16q : Q_ = Q_5 := hP_14.2.1.symm
  subst hz_16q
  refine lv_iload_n hx hb dX3_fillFrom_5 rfl (lv_at hl 3 rfl) ?_
  refine lv_istore (lv' := [(5, .int x3_), (0, .ref a0_), (1, .ref x1_), (2, .int x2_), (3, .int x3_), (4, .int x4_)]) hx hb dX3_fillFrom_6 hl (by decide) rfl (fun ls hl => ?_)
  have loop_17 : ∀ (n : Nat) (v8_5 : Int32) (w8_3_4_a0_ : Int32) (w8_3_0_a0_ : Int32), bd 0 10 v8_5 → bd 0 3 w8_3_4_a0_ → bd 0 10 w8_3_0_a0_ → (10 - v8_5.toInt < (n : Int)) → ∀ (f : Nat → va_E) (H : Heap) (locs : List Loc) (ls : Array Slot), G3 (dC, dI) L kd tys s f0 [(3, 0), (3, 4)] [103, 122, 123, 125] f H locs [(3, 4, a0_, .int w8_3_4_a0_), (3, 0, a0_, .int w8_3_0_a0_), (3, 2, a0_, .ref m_), (3, 3, a0_, .ref p_)] → (∃ Q1 : RQ, isQ L kd f m_ A_ Q1 ∧ arP f p_ A_ ∧ QR L kd f0 f a0_ m_ A_ ∧ wQ Q1 w8_3_0_a0_ w8_3_4_a0_ ∧ w8_3_0_a0_.toInt = v8_5.toInt) → lv_has ls 6 [(5, .int v8_5), (0, .ref a0_), (1, .ref x1_), (2, .int x2_), (3, .int x3_), (4, .int x4_)] → W p l e ({ frames := 2, cells := 0, slots := 0, locals := 51 } : Room) s m [.ref a0_, .ref x1_, .int x2_, .int x3_, .int x4_].toArray below meth c H locs 0 0 Q (F0 m 8 ls []) := by
    intro n8
    induction n8 with
    | zero =>
      intro v8_5 w8_3_4_a0_ w8_3_0_a0_ bv8_5 bw8_3_4_a0_ bw8_3_0_a0_ hm8 f H locs ls g  ⟨Q8, hQ8, hJ8, hU8, hw8, hn8⟩ hl
      exact absurd hm8 (by have h9_v8_5 := bv8_5; unfold bd at h9_v8_5; have h9_w8_3_4_a0_ := bw8_3_4_a0_; unfold bd at h9_w8_3_4_a0_; have h9_w8_3_0_a0_ := bw8_3_0_a0_; unfold bd at h9_w8_3_0_a0_; omega)
    | succ n8 ih8 =>
      intro v8_5 w8_3_4_a0_ w8_3_0_a0_ bv8_5 bw8_3_4_a0_ bw8_3_0_a0_ hm8 f H locs ls g  ⟨Q8, hQ8, hJ8, hU8, hw8, hn8⟩ hl
      refine lv_iload hx hb dX3_fillFrom_8 (lv_at hl 0 rfl) ?_
      refine lv_iload hx hb dX3_fillFrom_10 (lv_at hl 5 rfl) ?_
      refine lv_icmp_ge (tgt := 72) hx hb dX3_fillFrom_12 (by decide) (fun c_18 => ?_) (fun c_18 => ?_)
      · have fc_18 := le_f c_18
        refine lv_iconst (v := 1) hx hb dX3_fillFrom_72 (by decide) ?_
        have kb_1 : bd 1 1 (1 : Int32) := ⟨by decide, by decide⟩
        subst hQ
        exact W.zret (v := 1) hx hb hr (nar_z (bd_sub kb_1 (by decide) : bd 0 1 _).1 (bd_sub kb_1 (by decide) : bd 0 1 _).2) (fun t ht hW => ⟨⟨_, _, rfl, ⟨⟨Q8, w8_3_0_a0_, w8_3_4_a0_, hQ8, hU8, (fx_at g (i := 1) rfl).2.2.2, (fx_at g (i := 0) rfl).2.2.2, bw8_3_0_a0_, bw8_3_4_a0_, hw8⟩, (bd_sub kb_1 (by decide)), trivial⟩, q3_of g hK ht hW⟩, g.2.2.1.F ht⟩) g.2.2.1.2.2 dX3_fillFrom_73
      · have fc_18 := nle_f c_18
        have b_19 : bd 0 9 v8_5 := ltL fc_18 bv8_5 bx4_ (by decide)
        have b_20 : bd 1 10 x4_ := ltR fc_18 bv8_5 bx4_ (by decide)
        refine lv_iload hx hb dX3_fillFrom_15 (lv_at hl 0 rfl) ?_
        have kb_0 : bd 0 0 (0 : Int32) := ⟨by decide, by decide⟩
        refine lv_if_le (tgt := 49) hx hb dX3_fillFrom_17 (by decide) (fun c_21 => ?_) (fun c_21 => ?_)
        · have fc_21 := le_f c_21
          have b_22 : bd 0 0 v8_5 := leL fc_21 b_19 kb_0 (by decide)
          refine lv_aload_n hx hb dX3_fillFrom_49 rfl (lv_at hl 1 rfl) ?_
          have go_ := g
          refine g_calli (va_runV (As := []) (rest := []) ⟨hx, hb, hml, hown, hts⟩ (r_X3_roomForMakeQ l dC dI L kd tys f H.size g.2.2.2.1 a0_ ma0_ ka0_ p_ mp_ kp_ m_ mm_ km_ A_ Q8 w8_3_0_a0_ bw8_3_0_a0_ w8_3_4_a0_ bw8_3_4_a0_ hJ8 hQ8 (g.fcts [1, 0, 2, 3] rfl)) (cwV 0 hts (gV_ t_1728 t_1473 t_1474 t_196 t_1475) rfl rfl rfl (by decide +kernel) ⟨(Nat.le_of_ble_eq_true rfl), (Nat.le_of_ble_eq_true rfl)⟩) (pre3V g hK ma0_ ka0_ (by decide) (q := (RX3, TX3, 6)) rfl) rfl rfl hl.1 rfl (lv_room (Nat.le_of_ble_eq_true rfl)) dX3_fillFrom_50 ⟨(Nat.le_of_ble_eq_true rfl), (Nat.le_of_ble_eq_true rfl)⟩) g hK (by decide) (by decide) (fx' := [(3, 4, a0_, .int w8_3_4_a0_), (3, 0, a0_, .int w8_3_0_a0_), (3, 2, a0_, .ref m_), (3, 3, a0_, .ref p_)]) rfl (fun r_23 fr_23 H locs hp hMr_23 g => ?_)
          obtain ⟨hx_24, h_25, -⟩ := hp
          have hG_26 := isQ.frame hMr_23 go_.2.2.2.1 ma0_ ka0_ (by decide) (by decide) hQ8
          have hG_27 := arP.frame hMr_23 go_.2.2.2.1 mp_ kp_ (by decide) (by decide) hJ8
          have hG_28 := QR.frame hMr_23 go_.2.2.2.1 ma0_ ka0_ (by decide) (by decide) hU8
          obtain ⟨Q_29, n_30, k_31, hQ_32, hU_33, h0_34, h4_35, b0_36, b4_37, hP_38⟩ := hx_24
          have hU_39 := QR.tr hU8 hU_33
          obtain rfl : w8_3_0_a0_ = n_30 := by have h9 := (fx_at g (i := 1) rfl).2.2.2.symm.trans h0_34; cases h9; rfl
          obtain rfl : w8_3_4_a0_ = k_31 := by have h9 := (fx_at g (i := 0) rfl).2.2.2.symm.trans h4_35; cases h9; rfl
          have hz_40 : Q8 = Q_29 := hP_38.1.symm
          subst hz_40
          refine lv_if_eq (tgt := 64) hx hb dX3_fillFrom_53 (by decide) (fun c_41 => ?_) (fun c_41 => ?_)
          · have fc_41 := eq_f c_41
            have b_42 : bd 0 0 r_23 := eqX fc_41 h_25 kb_0 (by decide)
            refine lv_iconst (v := 0) hx hb dX3_fillFrom_64 (by decide) ?_
            subst hQ
            exact W.zret (v := 0) hx hb hr (nar_z (bd_sub kb_0 (by decide) : bd 0 1 _).1 (bd_sub kb_0 (by decide) : bd 0 1 _).2) (fun t ht hW => ⟨⟨_, _, rfl, ⟨⟨Q8, w8_3_0_a0_, w8_3_4_a0_, hQ_32, hU_39, (fx_at g (i := 1) rfl).2.2.2, (fx_at g (i := 0) rfl).2.2.2, bw8_3_0_a0_, bw8_3_4_a0_, hw8⟩, (bd_sub kb_0 (by decide)), trivial⟩, q3_of g hK ht hW⟩, g.2.2.1.F ht⟩) g.2.2.1.2.2 dX3_fillFrom_65
          · have fc_41 := neq_f c_41
            have b_43 : bd 1 1 r_23 := neX fc_41 h_25 kb_0 (by decide)
            refine lv_aload_n hx hb dX3_fillFrom_56 rfl (lv_at hl 1 rfl) ?_
            refine lv_iload_n hx hb dX3_fillFrom_57 rfl (lv_at hl 3 rfl) ?_
            have go_ := g
            refine g_callv (va_runV (As := [.int x2_]) (rest := []) ⟨hx, hb, hml, hown, hts⟩ (r_X3_addMakeQ l dC dI L kd tys fr_23 H.size g.2.2.2.1 a0_ ma0_ ka0_ p_ mp_ kp_ m_ mm_ km_ A_ Q8 w8_3_0_a0_ bw8_3_0_a0_ w8_3_4_a0_ bw8_3_4_a0_ hG_27 hQ_32 hw8 x2_ bx2_ (g.fcts [1, 0, 2, 3] rfl)) (cwV 1 hts (gV_ t_1729 t_1482 t_1483 t_196 t_1484) rfl rfl rfl (by decide +kernel) ⟨(Nat.le_of_ble_eq_true rfl), (Nat.le_of_ble_eq_true rfl)⟩) (pre3V g hK ma0_ ka0_ (by decide) (q := (RX3, TX3, 6)) rfl) rfl rfl hl.1 rfl (lv_room (Nat.le_of_ble_eq_true rfl)) dX3_fillFrom_58 ⟨(Nat.le_of_ble_eq_true rfl), (Nat.le_of_ble_eq_true rfl)⟩) g hK (by decide) (by decide) (fx' := [(3, 2, a0_, .ref m_), (3, 3, a0_, .ref p_)]) rfl (fun fr_44 H locs hp hMr_44 g => ?_)
            obtain ⟨hx_45, -⟩ := hp
            have hG_46 := arP.frame hMr_44 go_.2.2.2.1 mp_ kp_ (by decide) (by decide) hG_27
            obtain ⟨Q_47, n_48, k_49, hQ_50, hU_51, h0_52, h4_53, b0_54, b4_55, hP_56⟩ := hx_45
            have hU_57 := QR.tr hU_39 hU_51
            have g := G3.add g ma0_ ka0_ (by decide) h0_52
            have g := G3.add g ma0_ ka0_ (by decide) h4_53
            have hz_58r := hP_38.2.2.2 (by have h9_0 := bk_; unfold bd at h9_0; have h9_1 := b4_55; unfold bd at h9_1; have h9_2 := b4_13; unfold bd at h9_2; have h9_3 := bn_; unfold bd at h9_3; have h9_4 := b0_54; unfold bd at h9_4; have h9_5 := b0_12; unfold bd at h9_5; have h9_6 := b_43; unfold bd at h9_6; have h9_7 := b_22; unfold bd at h9_7; have h9_8 := bw8_3_0_a0_; unfold bd at h9_8; have h9_9 := bw8_3_4_a0_; unfold bd at h9_9; have h9_10 := bx2_; unfold bd at h9_10; have h9_11 := bx3_; unfold bd at h9_11; have h9_12 := b_20; unfold bd at h9_12; have h8_0 := kb_0; unfold bd at h8_0; omega)
            have hz_58 := hP_56.2 hz_58r.1 hz_58r.2
            refine lv_goto (tgt := 66) hx hb dX3_fillFrom_61 (by decide) ?_
            have kb_1 : bd 1 1 (1 : Int32) := ⟨by decide, by decide⟩
            obtain ⟨y_59, ey_59⟩ : ∃ z : Int32, z = v8_5 + 1 := ⟨_, rfl⟩
            refine lv_iinc (v := y_59) (lv' := [(5, .int y_59), (0, .ref a0_), (1, .ref x1_), (2, .int x2_), (3, .int x3_), (4, .int x4_)]) hx hb dX3_fillFrom_66 hl (k := 0) rfl (by rw [ey_59]; rfl) (by decide) rfl (fun ls hl => ?_)
            have ty_59 := add_bd ey_59 b_22 kb_1 (by decide)
            have b_60 : bd 1 1 y_59 := add_rg ty_59 b_22 kb_1 (by decide)
            refine lv_goto (tgt := 8) hx hb dX3_fillFrom_69 (by decide) ?_
            have hl9 := lv_sub hl [0, 1, 2, 3, 4, 5] (by rfl : lv_pick [(5, .int y_59), (0, .ref a0_), (1, .ref x1_), (2, .int x2_), (3, .int x3_), (4, .int x4_)] [0, 1, 2, 3, 4, 5] = [(5, .int y_59), (0, .ref a0_), (1, .ref x1_), (2, .int x2_), (3, .int x3_), (4, .int x4_)])
            have g9 := g.sub (fx' := [(3, 4, a0_, .int k_49), (3, 0, a0_, .int n_48), (3, 2, a0_, .ref m_), (3, 3, a0_, .ref p_)]) [0, 1, 2, 3] rfl
            exact ih8  y_59 k_49 n_48 (bd_sub b_60 (by decide)) b4_55 b0_54 (by have h9_0 := b0_54; unfold bd at h9_0; have h9_1 := b4_55; unfold bd at h9_1; have h9_2 := b_60; unfold bd at h9_2; have h9_3 := bv8_5; unfold bd at h9_3; have h9_4 := bw8_3_0_a0_; unfold bd at h9_4; have h9_5 := bw8_3_4_a0_; unfold bd at h9_5; have h9_6 := kb_0; unfold bd at h9_6; have h9_7 := kb_1; unfold bd at h9_7; omega) _ _ _ _ g9 ⟨_, hQ_50, hG_46, hU_57, hP_56.1, (by have h9_0 := bk_; unfold bd at h9_0; have h9_1 := b4_55; unfold bd at h9_1; have h9_2 := b4_13; unfold bd at h9_2; have h9_3 := bn_; unfold bd at h9_3; have h9_4 := b0_54; unfold bd at h9_4; have h9_5 := b0_12; unfold bd at h9_5; have h9_6 := b_43; unfold bd at h9_6; have h9_7 := b_22; unfold bd at h9_7; have h9_8 := bw8_3_0_a0_; unfold bd at h9_8; have h9_9 := bw8_3_4_a0_; unfold bd at h9_9; have h9_10 := bx2_; unfold bd at h9_10; have h9_11 := bx3_; unfold bd at h9_11; have h9_12 := b_20; unfold bd at h9_12; have h9_13 := b_60; unfold bd at h9_13; have h8_0 := kb_0; unfold bd at h8_0; have h8_1 := kb_1; unfold bd at h8_1; omega)⟩ hl9
        · have fc_21 := nle_f c_21
          have b_61 : bd 1 9 v8_5 := ltR fc_21 kb_0 b_19 (by decide)
          refine lv_aload_n hx hb dX3_fillFrom_20 rfl (lv_at hl 2 rfl) ?_
          refine lv_iload_n hx hb dX3_fillFrom_21 rfl (lv_at hl 3 rfl) ?_
          refine lv_iconst (v := 0) hx hb dX3_fillFrom_22 (by decide) ?_
          have go_ := g
          refine g_calli (va_runV (As := [.int x2_, .int 0]) (rest := []) ⟨hx, hb, hml, hown, hts⟩ (r_X7_hasMember l dC dI L kd tys f H.size g.2.2.2.1 x1_ mx1_ kx1_ x2_ 0) (cwV 2 hts (gV_ t_1497 t_1448 t_1449 t_191 t_1450) rfl rfl rfl (by decide +kernel) ⟨(Nat.le_of_ble_eq_true rfl), (Nat.le_of_ble_eq_true rfl)⟩) (pre3V g hK mx1_ kx1_ (by decide) (q := (RX7, TX7, 19)) rfl) rfl rfl hl.1 rfl (lv_room (Nat.le_of_ble_eq_true rfl)) dX3_fillFrom_23 ⟨(Nat.le_of_ble_eq_true rfl), (Nat.le_of_ble_eq_true rfl)⟩) g hK (by decide) (by decide) (fx' := [(3, 4, a0_, .int w8_3_4_a0_), (3, 0, a0_, .int w8_3_0_a0_), (3, 2, a0_, .ref m_), (3, 3, a0_, .ref p_)]) rfl (fun r_62 fr_62 H locs hp hMr_62 g => ?_)
          rcases hp with ⟨h_63, -⟩ | ⟨h_64, h_65, h_66, x_67, h_68, hF_69⟩
          · have hG_70 := isQ.frame hMr_62 go_.2.2.2.1 ma0_ ka0_ (by decide) (by decide) hQ8
            have hG_71 := arP.frame hMr_62 go_.2.2.2.1 mp_ kp_ (by decide) (by decide) hJ8
            have hG_72 := QR.frame hMr_62 go_.2.2.2.1 ma0_ ka0_ (by decide) (by decide) hU8
            obtain rfl : r_62 = 0 := h_63
            refine lv_if_eq (tgt := 49) hx hb dX3_fillFrom_26 (by decide) (fun c_ => ?_) (fun c_ => absurd (by decide) c_)
            refine lv_aload_n hx hb dX3_fillFrom_49 rfl (lv_at hl 1 rfl) ?_
            have go_ := g
            refine g_calli (va_runV (As := []) (rest := []) ⟨hx, hb, hml, hown, hts⟩ (r_X3_roomForMakeQ l dC dI L kd tys fr_62 H.size g.2.2.2.1 a0_ ma0_ ka0_ p_ mp_ kp_ m_ mm_ km_ A_ Q8 w8_3_0_a0_ bw8_3_0_a0_ w8_3_4_a0_ bw8_3_4_a0_ hG_71 hG_70 (g.fcts [1, 0, 2, 3] rfl)) (cwV 0 hts (gV_ t_1728 t_1473 t_1474 t_196 t_1475) rfl rfl rfl (by decide +kernel) ⟨(Nat.le_of_ble_eq_true rfl), (Nat.le_of_ble_eq_true rfl)⟩) (pre3V g hK ma0_ ka0_ (by decide) (q := (RX3, TX3, 6)) rfl) rfl rfl hl.1 rfl (lv_room (Nat.le_of_ble_eq_true rfl)) dX3_fillFrom_50 ⟨(Nat.le_of_ble_eq_true rfl), (Nat.le_of_ble_eq_true rfl)⟩) g hK (by decide) (by decide) (fx' := [(3, 4, a0_, .int w8_3_4_a0_), (3, 0, a0_, .int w8_3_0_a0_), (3, 2, a0_, .ref m_), (3, 3, a0_, .ref p_)]) rfl (fun r_73 fr_73 H locs hp hMr_73 g => ?_)
            obtain ⟨hx_74, h_75, -⟩ := hp
            have hG_76 := isQ.frame hMr_73 go_.2.2.2.1 ma0_ ka0_ (by decide) (by decide) hG_70
            have hG_77 := arP.frame hMr_73 go_.2.2.2.1 mp_ kp_ (by decide) (by decide) hG_71
            have hG_78 := QR.frame hMr_73 go_.2.2.2.1 ma0_ ka0_ (by decide) (by decide) hG_72
            obtain ⟨Q_79, n_80, k_81, hQ_82, hU_83, h0_84, h4_85, b0_86, b4_87, hP_88⟩ := hx_74
            have hU_89 := QR.tr hG_72 hU_83
            obtain rfl : w8_3_0_a0_ = n_80 := by have h9 := (fx_at g (i := 1) rfl).2.2.2.symm.trans h0_84; cases h9; rfl
            obtain rfl : w8_3_4_a0_ = k_81 := by have h9 := (fx_at g (i := 0) rfl).2.2.2.symm.trans h4_85; cases h9; rfl
            have hz_90 : Q8 = Q_79 := hP_88.1.symm
            subst hz_90
            refine lv_if_eq (tgt := 64) hx hb dX3_fillFrom_53 (by decide) (fun c_91 => ?_) (fun c_91 => ?_)
            · have fc_91 := eq_f c_91
              have b_92 : bd 0 0 r_73 := eqX fc_91 h_75 kb_0 (by decide)
              refine lv_iconst (v := 0) hx hb dX3_fillFrom_64 (by decide) ?_
              subst hQ
              exact W.zret (v := 0) hx hb hr (nar_z (bd_sub kb_0 (by decide) : bd 0 1 _).1 (bd_sub kb_0 (by decide) : bd 0 1 _).2) (fun t ht hW => ⟨⟨_, _, rfl, ⟨⟨Q8, w8_3_0_a0_, w8_3_4_a0_, hQ_82, hU_89, (fx_at g (i := 1) rfl).2.2.2, (fx_at g (i := 0) rfl).2.2.2, bw8_3_0_a0_, bw8_3_4_a0_, hw8⟩, (bd_sub kb_0 (by decide)), trivial⟩, q3_of g hK ht hW⟩, g.2.2.1.F ht⟩) g.2.2.1.2.2 dX3_fillFrom_65
            · have fc_91 := neq_f c_91
              have b_93 : bd 1 1 r_73 := neX fc_91 h_75 kb_0 (by decide)
              refine lv_aload_n hx hb dX3_fillFrom_56 rfl (lv_at hl 1 rfl) ?_
              refine lv_iload_n hx hb dX3_fillFrom_57 rfl (lv_at hl 3 rfl) ?_
              have go_ := g
              refine g_callv (va_runV (As := [.int x2_]) (rest := []) ⟨hx, hb, hml, hown, hts⟩ (r_X3_addMakeQ l dC dI L kd tys fr_73 H.size g.2.2.2.1 a0_ ma0_ ka0_ p_ mp_ kp_ m_ mm_ km_ A_ Q8 w8_3_0_a0_ bw8_3_0_a0_ w8_3_4_a0_ bw8_3_4_a0_ hG_77 hQ_82 hw8 x2_ bx2_ (g.fcts [1, 0, 2, 3] rfl)) (cwV 1 hts (gV_ t_1729 t_1482 t_1483 t_196 t_1484) rfl rfl rfl (by decide +kernel) ⟨(Nat.le_of_ble_eq_true rfl), (Nat.le_of_ble_eq_true rfl)⟩) (pre3V g hK ma0_ ka0_ (by decide) (q := (RX3, TX3, 6)) rfl) rfl rfl hl.1 rfl (lv_room (Nat.le_of_ble_eq_true rfl)) dX3_fillFrom_58 ⟨(Nat.le_of_ble_eq_true rfl), (Nat.le_of_ble_eq_true rfl)⟩) g hK (by decide) (by decide) (fx' := [(3, 2, a0_, .ref m_), (3, 3, a0_, .ref p_)]) rfl (fun fr_94 H locs hp hMr_94 g => ?_)
              obtain ⟨hx_95, -⟩ := hp
              have hG_96 := arP.frame hMr_94 go_.2.2.2.1 mp_ kp_ (by decide) (by decide) hG_77
              obtain ⟨Q_97, n_98, k_99, hQ_100, hU_101, h0_102, h4_103, b0_104, b4_105, hP_106⟩ := hx_95
              have hU_107 := QR.tr hU_89 hU_101
              have g := G3.add g ma0_ ka0_ (by decide) h0_102
              have g := G3.add g ma0_ ka0_ (by decide) h4_103
              have hz_108r := hP_88.2.2.2 (by have h9_0 := bk_; unfold bd at h9_0; have h9_1 := b4_13; unfold bd at h9_1; have h9_2 := b4_105; unfold bd at h9_2; have h9_3 := bn_; unfold bd at h9_3; have h9_4 := b0_12; unfold bd at h9_4; have h9_5 := b0_104; unfold bd at h9_5; have h9_6 := b_93; unfold bd at h9_6; have h9_7 := b_61; unfold bd at h9_7; have h9_8 := bw8_3_0_a0_; unfold bd at h9_8; have h9_9 := bw8_3_4_a0_; unfold bd at h9_9; have h9_10 := bx2_; unfold bd at h9_10; have h9_11 := bx3_; unfold bd at h9_11; have h9_12 := b_20; unfold bd at h9_12; have h8_0 := kb_0; unfold bd at h8_0; omega)
              have hz_108 := hP_106.2 hz_108r.1 hz_108r.2
              refine lv_goto (tgt := 66) hx hb dX3_fillFrom_61 (by decide) ?_
              have kb_1 : bd 1 1 (1 : Int32) := ⟨by decide, by decide⟩
              obtain ⟨y_109, ey_109⟩ : ∃ z : Int32, z = v8_5 + 1 := ⟨_, rfl⟩
              refine lv_iinc (v := y_109) (lv' := [(5, .int y_109), (0, .ref a0_), (1, .ref x1_), (2, .int x2_), (3, .int x3_), (4, .int x4_)]) hx hb dX3_fillFrom_66 hl (k := 0) rfl (by rw [ey_109]; rfl) (by decide) rfl (fun ls hl => ?_)
              have ty_109 := add_bd ey_109 b_61 kb_1 (by decide)
              have b_110 : bd 2 10 y_109 := add_rg ty_109 b_61 kb_1 (by decide)
              refine lv_goto (tgt := 8) hx hb dX3_fillFrom_69 (by decide) ?_
              have hl9 := lv_sub hl [0, 1, 2, 3, 4, 5] (by rfl : lv_pick [(5, .int y_109), (0, .ref a0_), (1, .ref x1_), (2, .int x2_), (3, .int x3_), (4, .int x4_)] [0, 1, 2, 3, 4, 5] = [(5, .int y_109), (0, .ref a0_), (1, .ref x1_), (2, .int x2_), (3, .int x3_), (4, .int x4_)])
              have g9 := g.sub (fx' := [(3, 4, a0_, .int k_99), (3, 0, a0_, .int n_98), (3, 2, a0_, .ref m_), (3, 3, a0_, .ref p_)]) [0, 1, 2, 3] rfl
              exact ih8  y_109 k_99 n_98 (bd_sub b_110 (by decide)) b4_105 b0_104 (by have h9_0 := b0_104; unfold bd at h9_0; have h9_1 := b4_105; unfold bd at h9_1; have h9_2 := b_110; unfold bd at h9_2; have h9_3 := bv8_5; unfold bd at h9_3; have h9_4 := bw8_3_0_a0_; unfold bd at h9_4; have h9_5 := bw8_3_4_a0_; unfold bd at h9_5; have h9_6 := kb_0; unfold bd at h9_6; have h9_7 := kb_1; unfold bd at h9_7; omega) _ _ _ _ g9 ⟨_, hQ_100, hG_96, hU_107, hP_106.1, (by have h9_0 := bk_; unfold bd at h9_0; have h9_1 := b4_13; unfold bd at h9_1; have h9_2 := b4_105; unfold bd at h9_2; have h9_3 := bn_; unfold bd at h9_3; have h9_4 := b0_12; unfold bd at h9_4; have h9_5 := b0_104; unfold bd at h9_5; have h9_6 := b_93; unfold bd at h9_6; have h9_7 := b_61; unfold bd at h9_7; have h9_8 := bw8_3_0_a0_; unfold bd at h9_8; have h9_9 := bw8_3_4_a0_; unfold bd at h9_9; have h9_10 := bx2_; unfold bd at h9_10; have h9_11 := bx3_; unfold bd at h9_11; have h9_12 := b_20; unfold bd at h9_12; have h9_13 := b_110; unfold bd at h9_13; have h8_0 := kb_0; unfold bd at h8_0; have h8_1 := kb_1; unfold bd at h8_1; omega)⟩ hl9
          · have hG_111 := isQ.frame hMr_62 go_.2.2.2.1 ma0_ ka0_ (by decide) (by decide) hQ8
            have hG_112 := arP.frame hMr_62 go_.2.2.2.1 mp_ kp_ (by decide) (by decide) hJ8
            have hG_113 := QR.frame hMr_62 go_.2.2.2.1 ma0_ ka0_ (by decide) (by decide) hU8
            obtain rfl : r_62 = 1 := h_64
            have g := g.more hF_69
            refine lv_if_eq (tgt := 49) hx hb dX3_fillFrom_26 (by decide) (fun c_ => absurd c_ (by decide)) (fun c_ => ?_)
            refine lv_aload_n hx hb dX3_fillFrom_29 rfl (lv_at hl 1 rfl) ?_
            refine lv_iconst (v := 0) hx hb dX3_fillFrom_30 (by decide) ?_
            refine lv_iconst (v := 0) hx hb dX3_fillFrom_31 (by decide) ?_
            refine lv_iconst (v := 0) hx hb dX3_fillFrom_32 (by decide) ?_
            refine lv_iconst (v := 0) hx hb dX3_fillFrom_33 (by decide) ?_
            refine lv_iconst (v := 0) hx hb dX3_fillFrom_34 (by decide) ?_
            have go_ := g
            refine g_callv (va_runV (As := [.int 0, .int 0, .int 0, .int 0, .int 0]) (rest := []) ⟨hx, hb, hml, hown, hts⟩ (r_X3_addCallQ l dC dI L kd tys fr_62 H.size g.2.2.2.1 a0_ ma0_ ka0_ p_ mp_ kp_ m_ mm_ km_ A_ Q8 w8_3_0_a0_ bw8_3_0_a0_ w8_3_4_a0_ bw8_3_4_a0_ hG_112 hG_111 hw8 (0 : Int32) (bd_sub kb_0 (by decide)) (0 : Int32) (bd_sub kb_0 (by decide)) (0 : Int32) (0 : Int32) (0 : Int32) (g.fcts [2, 1, 3, 4] rfl)) (cwV 5 hts (gV_ t_1723 t_1515 t_1516 t_196 t_1517) rfl rfl rfl (by decide +kernel) ⟨(Nat.le_of_ble_eq_true rfl), (Nat.le_of_ble_eq_true rfl)⟩) (pre3V g hK ma0_ ka0_ (by decide) (q := (RX3, TX3, 6)) rfl) rfl rfl hl.1 rfl (lv_room (Nat.le_of_ble_eq_true rfl)) dX3_fillFrom_35 ⟨(Nat.le_of_ble_eq_true rfl), (Nat.le_of_ble_eq_true rfl)⟩) g hK (by decide) (by decide) (fx' := [(7, 1, x1_, .int x_67), (3, 4, a0_, .int w8_3_4_a0_), (3, 2, a0_, .ref m_), (3, 3, a0_, .ref p_)]) rfl (fun fr_114 H locs hp hMr_114 g => ?_)
            obtain ⟨hx_115, -⟩ := hp
            have hG_116 := arP.frame hMr_114 go_.2.2.2.1 mp_ kp_ (by decide) (by decide) hG_112
            obtain ⟨Q_117, n_118, k_119, hQ_120, hU_121, h0_122, h4_123, b0_124, b4_125, hP_126⟩ := hx_115
            have hU_127 := QR.tr hG_113 hU_121
            have g := G3.add g ma0_ ka0_ (by decide) h0_122
            obtain rfl : w8_3_4_a0_ = k_119 := by have h9 := (fx_at g (i := 2) rfl).2.2.2.symm.trans h4_123; cases h9; rfl
            have hz_128 := hP_126.2 (by have h9_0 := bk_; unfold bd at h9_0; have h9_1 := b4_13; unfold bd at h9_1; have h9_2 := bn_; unfold bd at h9_2; have h9_3 := b0_124; unfold bd at h9_3; have h9_4 := b0_12; unfold bd at h9_4; have h9_5 := b_61; unfold bd at h9_5; have h9_6 := bw8_3_0_a0_; unfold bd at h9_6; have h9_7 := bw8_3_4_a0_; unfold bd at h9_7; have h9_8 := bx2_; unfold bd at h9_8; have h9_9 := bx3_; unfold bd at h9_9; have h9_10 := b_20; unfold bd at h9_10; have h9_11 := h_68; unfold bd at h9_11; have h8_0 := kb_0; unfold bd at h8_0; omega)
            refine lv_aload_n hx hb dX3_fillFrom_38 rfl (lv_at hl 1 rfl) ?_
            refine lv_aload_n hx hb dX3_fillFrom_39 rfl (lv_at hl 2 rfl) ?_
            refine lv_iload hx hb dX3_fillFrom_40 (lv_at hl 0 rfl) ?_
            refine lv_iconst (v := 0) hx hb dX3_fillFrom_42 (by decide) ?_
            have go_ := g
            refine g_callv (va_runV (As := [.ref x1_, .int v8_5, .int 0]) (rest := []) ⟨hx, hb, hml, hown, hts⟩ (r_X3_lowerArgumentsQ l dC dI L kd tys fr_114 H.size g.2.2.2.1 a0_ ma0_ ka0_ p_ mp_ kp_ m_ mm_ km_ A_ Q_117 n_118 b0_124 w8_3_4_a0_ bw8_3_4_a0_ hG_116 hQ_120 hP_126.1 x1_ mx1_ kx1_ v8_5 (bd_sub b_61 (by decide)) (0 : Int32) (bd_sub kb_0 (by decide)) (by rw [show v8_5.toNatClampNeg = w8_3_0_a0_.toNatClampNeg from (by have h9 := tnZ (i := v8_5) (by have h9_0 := bk_; unfold bd at h9_0; have h9_1 := b4_13; unfold bd at h9_1; have h9_2 := bn_; unfold bd at h9_2; have h9_3 := b0_124; unfold bd at h9_3; have h9_4 := b0_12; unfold bd at h9_4; have h9_5 := b_61; unfold bd at h9_5; have h9_6 := bw8_3_0_a0_; unfold bd at h9_6; have h9_7 := bw8_3_4_a0_; unfold bd at h9_7; have h9_8 := bx2_; unfold bd at h9_8; have h9_9 := bx3_; unfold bd at h9_9; have h9_10 := b_20; unfold bd at h9_10; have h9_11 := h_68; unfold bd at h9_11; have h8_0 := kb_0; unfold bd at h8_0; omega); have h8 := tnZ (i := w8_3_0_a0_) (by have h9_0 := bk_; unfold bd at h9_0; have h9_1 := b4_13; unfold bd at h9_1; have h9_2 := bn_; unfold bd at h9_2; have h9_3 := b0_124; unfold bd at h9_3; have h9_4 := b0_12; unfold bd at h9_4; have h9_5 := b_61; unfold bd at h9_5; have h9_6 := bw8_3_0_a0_; unfold bd at h9_6; have h9_7 := bw8_3_4_a0_; unfold bd at h9_7; have h9_8 := bx2_; unfold bd at h9_8; have h9_9 := bx3_; unfold bd at h9_9; have h9_10 := b_20; unfold bd at h9_10; have h9_11 := h_68; unfold bd at h9_11; have h8_0 := kb_0; unfold bd at h8_0; omega); have h9_0 := bk_; unfold bd at h9_0; have h9_1 := b4_13; unfold bd at h9_1; have h9_2 := bn_; unfold bd at h9_2; have h9_3 := b0_124; unfold bd at h9_3; have h9_4 := b0_12; unfold bd at h9_4; have h9_5 := b_61; unfold bd at h9_5; have h9_6 := bw8_3_0_a0_; unfold bd at h9_6; have h9_7 := bw8_3_4_a0_; unfold bd at h9_7; have h9_8 := bx2_; unfold bd at h9_8; have h9_9 := bx3_; unfold bd at h9_9; have h9_10 := b_20; unfold bd at h9_10; have h9_11 := h_68; unfold bd at h9_11; have h8_0 := kb_0; unfold bd at h8_0; omega), hz_128.2]; decide) (g.fcts [0, 2, 3, 4] rfl)) (cwV 3 hts (gV_ t_1724 t_1726 t_86 t_196 t_1727) rfl rfl rfl (by decide +kernel) ⟨(Nat.le_of_ble_eq_true rfl), (Nat.le_of_ble_eq_true rfl)⟩) (pre3V g hK ma0_ ka0_ (by decide) (q := (RX3, TX3, 6)) rfl) rfl rfl hl.1 rfl (lv_room (Nat.le_of_ble_eq_true rfl)) dX3_fillFrom_43 ⟨(Nat.le_of_ble_eq_true rfl), (Nat.le_of_ble_eq_true rfl)⟩) g hK (by decide) (by decide) (fx' := [(3, 0, a0_, .int n_118), (7, 1, x1_, .int x_67), (3, 4, a0_, .int w8_3_4_a0_), (3, 2, a0_, .ref m_), (3, 3, a0_, .ref p_)]) rfl (fun fr_129 H locs hp hMr_129 g => ?_)
            obtain ⟨hx_130, -⟩ := hp
            have hG_131 := arP.frame hMr_129 go_.2.2.2.1 mp_ kp_ (by decide) (by decide) hG_116
            obtain ⟨Q_132, n_133, k_134, hQ_135, hU_136, h0_137, h4_138, b0_139, b4_140, hP_141⟩ := hx_130
            have hU_142 := QR.tr hU_127 hU_136
            obtain rfl : n_118 = n_133 := by have h9 := (fx_at g (i := 0) rfl).2.2.2.symm.trans h0_137; cases h9; rfl
            obtain rfl : w8_3_4_a0_ = k_134 := by have h9 := (fx_at g (i := 2) rfl).2.2.2.symm.trans h4_138; cases h9; rfl
            refine lv_goto (tgt := 66) hx hb dX3_fillFrom_46 (by decide) ?_
            have kb_1 : bd 1 1 (1 : Int32) := ⟨by decide, by decide⟩
            obtain ⟨y_143, ey_143⟩ : ∃ z : Int32, z = v8_5 + 1 := ⟨_, rfl⟩
            refine lv_iinc (v := y_143) (lv' := [(5, .int y_143), (0, .ref a0_), (1, .ref x1_), (2, .int x2_), (3, .int x3_), (4, .int x4_)]) hx hb dX3_fillFrom_66 hl (k := 0) rfl (by rw [ey_143]; rfl) (by decide) rfl (fun ls hl => ?_)
            have ty_143 := add_bd ey_143 b_61 kb_1 (by decide)
            have b_144 : bd 2 10 y_143 := add_rg ty_143 b_61 kb_1 (by decide)
            refine lv_goto (tgt := 8) hx hb dX3_fillFrom_69 (by decide) ?_
            have hl9 := lv_sub hl [0, 1, 2, 3, 4, 5] (by rfl : lv_pick [(5, .int y_143), (0, .ref a0_), (1, .ref x1_), (2, .int x2_), (3, .int x3_), (4, .int x4_)] [0, 1, 2, 3, 4, 5] = [(5, .int y_143), (0, .ref a0_), (1, .ref x1_), (2, .int x2_), (3, .int x3_), (4, .int x4_)])
            have g9 := g.sub (fx' := [(3, 4, a0_, .int w8_3_4_a0_), (3, 0, a0_, .int n_118), (3, 2, a0_, .ref m_), (3, 3, a0_, .ref p_)]) [2, 0, 3, 4] rfl
            exact ih8  y_143 w8_3_4_a0_ n_118 (bd_sub b_144 (by decide)) bw8_3_4_a0_ b0_124 (by have h9_0 := b0_124; unfold bd at h9_0; have h9_1 := b_144; unfold bd at h9_1; have h9_2 := bv8_5; unfold bd at h9_2; have h9_3 := bw8_3_0_a0_; unfold bd at h9_3; have h9_4 := bw8_3_4_a0_; unfold bd at h9_4; have h9_5 := kb_0; unfold bd at h9_5; have h9_6 := kb_1; unfold bd at h9_6; omega) _ _ _ _ g9 ⟨_, hQ_135, hG_131, hU_142, hP_141.1, (by have h9_0 := bk_; unfold bd at h9_0; have h9_1 := b4_13; unfold bd at h9_1; have h9_2 := bn_; unfold bd at h9_2; have h9_3 := b0_124; unfold bd at h9_3; have h9_4 := b0_12; unfold bd at h9_4; have h9_5 := b_61; unfold bd at h9_5; have h9_6 := bw8_3_0_a0_; unfold bd at h9_6; have h9_7 := bw8_3_4_a0_; unfold bd at h9_7; have h9_8 := bx2_; unfold bd at h9_8; have h9_9 := bx3_; unfold bd at h9_9; have h9_10 := b_20; unfold bd at h9_10; have h9_11 := h_68; unfold bd at h9_11; have h9_12 := b_144; unfold bd at h9_12; have h8_0 := kb_0; unfold bd at h8_0; have h8_1 := kb_1; unfold bd at h8_1; omega)⟩ hl9
  have hl9 := lv_sub hl [0, 1, 2, 3, 4, 5] (by rfl : lv_pick [(5, .int x3_), (0, .ref a0_), (1, .ref x1_), (2, .int x2_), (3, .int x3_), (4, .int x4_)] [0, 1, 2, 3, 4, 5] = [(5, .int x3_), (0, .ref a0_), (1, .ref x1_), (2, .int x2_), (3, .int x3_), (4, .int x4_)])
  have g9 := g.sub (fx' := [(3, 4, a0_, .int k_7), (3, 0, a0_, .int n_6), (3, 2, a0_, .ref m_), (3, 3, a0_, .ref p_)]) [0, 1, 2, 3] rfl
  exact loop_17 (23) x3_ k_7 n_6 bx3_ b4_13 b0_12 (by have h9_0 := b0_12; unfold bd at h9_0; have h9_1 := b4_13; unfold bd at h9_1; have h9_2 := bx3_; unfold bd at h9_2; omega) _ _ _ _ g9 ⟨_, hQ_8, hG_4, hU_15, hP_14.1, (by have h9_0 := bk_; unfold bd at h9_0; have h9_1 := b4_13; unfold bd at h9_1; have h9_2 := bn_; unfold bd at h9_2; have h9_3 := b0_12; unfold bd at h9_3; have h9_4 := bx2_; unfold bd at h9_4; have h9_5 := bx3_; unfold bd at h9_5; have h9_6 := bx4_; unfold bd at h9_6; omega)⟩ hl9
set_option maxHeartbeats 4000000 in
set_option maxRecDepth 100000 in
theorem r_X3_copyFromQ (l : Launch) (dC : Nat → ClassId) (dI : Nat → Nat → Nat) (L : List Nat) (kd : Nat → Nat) (tys : List (ClassId × FieldType)) (f0 : Nat → va_E) (sz : Nat) (hWT : WT L kd tys f0) (a0_ : Nat) (ma0_ : a0_ ∈ L) (ka0_ : kd a0_ = 3) (p_ : Nat) (mp_ : p_ ∈ L) (kp_ : kd p_ = 124) (m_ : Nat) (mm_ : m_ ∈ L) (km_ : kd m_ = 123) (A_ : Nat → Nat) (Q_ : RQ) (n_ : Int32) (bn_ : bd 0 10 n_) (k_ : Int32) (bk_ : bd 0 3 k_) (hJ_ : arP f0 p_ A_) (hQ_ : isQ L kd f0 m_ A_ Q_) (x1_ : Nat) (mx1_ : x1_ ∈ L) (kx1_ : kd x1_ = 3) (p9_ : Nat) (mp9_ : p9_ ∈ L) (kp9_ : kd p9_ = 124) (m9_ : Nat) (mm9_ : m9_ ∈ L) (km9_ : kd m9_ = 123) (A9_ : Nat → Nat) (Q9_ : RQ) (n9_ : Int32) (bn9_ : bd 0 10 n9_) (k9_ : Int32) (bk9_ : bd 0 3 k9_) (hJ9_ : arP f0 p9_ A9_) (hQ9_ : isQ L kd f0 m9_ A9_ Q9_) (hw9 : wQ Q9_ n9_ k9_) (hap : a0_ ≠ x1_ ∧ m_ ≠ m9_ ∧ ∀ i j, i < 10 → j < 10 → A_ i ≠ A9_ j) (hfx : Fs L kd f0 [(3, 0, a0_, .int n_), (3, 4, a0_, .int k_), (3, 2, a0_, .ref m_), (3, 3, a0_, .ref p_), (3, 0, x1_, .int n9_), (3, 4, x1_, .int k9_), (3, 2, x1_, .ref m9_), (3, 3, x1_, .ref p9_)]) : Met l yX3_copyFrom (.code yX3_copyFrom cX3_copyFrom 3 none :: lw_g) ({ frames := 1, cells := 0, slots := 0, locals := 40 }) (va_Pc [.ref a0_, .ref x1_] (P3 (dC, dI) L tys f0 sz)) (va_Qv (fun (f : Nat → va_E) => ((rowT L kd f0 f a0_ m_ A_ (fun Q1 n1 k1 => wQ Q1 n1 k1 ∧ n1 = n9_ ∧ k1 = k9_ ∧ ∀ i, i < 10 → Q1.1 i = Q9_.1 i ∧ Q1.2 i = Q9_.2 i)) ∧ True)) (Q3 (dC, dI) L kd tys [(3, 0), (3, 4)] [103, 122, 123, 125] f0 sz) (pA L sz)) 0 0 (pA L sz) := by
  refine Met.ofW (cc := cX3_copyFrom) (maxL := 3) (ret := none) (by decide) rfl ?_
  intro p e s m args below meth c s₁ B hml hv
  obtain ⟨rfl, hsz, hP, hK, hD0⟩ := hv
  have hx := B.exec
  have hb := B.bytes
  have hr := B.returns
  have hts := atoms_spec (ws := (.code yX3_copyFrom cX3_copyFrom 3 none :: lw_g)) B.pre
  have hown : s.vm.findClass RX3 = some m.cls := findClass_of_methodNamed B.named
  have hlocks := B.notSynchronized
  subst hsz
  have g : G3 (dC, dI) L kd tys s f0 [(3, 0), (3, 4)] [103, 122, 123, 125] f0 s.heap [] [(3, 0, a0_, .int n_), (3, 4, a0_, .int k_), (3, 2, a0_, .ref m_), (3, 3, a0_, .ref p_), (3, 0, x1_, .int n9_), (3, 4, x1_, .int k9_), (3, 2, x1_, .ref m9_), (3, 3, x1_, .ref p9_)] := G3.start hP hD0 hWT hfx
  have hl := lv_entry ([.ref a0_, .ref x1_]) (n := 3) (Nat.le_of_ble_eq_true rfl)
  rw [lg_entry_eq]
  generalize (lg_sl ([.ref a0_, .ref x1_]) ++ List.replicate (3 - (lg_sl ([.ref a0_, .ref x1_])).length) Slot.unset).toArray = ls at hl ⊢
  have hl : lv_has ls 3 [(0, .ref a0_), (1, .ref x1_)] := hl
  refine W_q (fun Q hQ => ?_)
  have hU_0 : QR L kd f0 f0 a0_ m_ A_ := QR.refl
  refine lv_aload_n hx hb dX3_copyFrom_0 rfl (lv_at hl 0 rfl) ?_
  refine lv_aload_n hx hb dX3_copyFrom_1 rfl (lv_at hl 1 rfl) ?_
  refine g_getk (C := RX3) (T := TX3) (N := 6) hx hb hts (mc_ inX3) hown hK g rfl 0 (by decide) rfl (hts _ (List.mem_cons_of_mem _ t_801)) (fun _ h9 => h9) 4 rfl dX3_copyFrom_2 ?_
  have go_ := g
  refine g_putX (C := RX3) (T := TX3) (N := 6) hx hb hts (mc_ inX3) tyX3 tyX3_ok nmX3 hown hK g ma0_ ka0_ (by decide) rfl 0 (by decide) (hts _ (List.mem_cons_of_mem _ t_801)) (fun _ h9 => h9) rfl rfl (okV_i bn9_) rfl rfl (by decide) (Or.inr (Or.inl (by decide))) (fx' := [(3, 4, a0_, .int k_), (3, 2, a0_, .ref m_), (3, 3, a0_, .ref p_), (3, 4, x1_, .int k9_), (3, 2, x1_, .ref m9_), (3, 3, x1_, .ref p9_)]) rfl dX3_copyFrom_5 (fun f H locs hM_1 u_6 g => ?_)
  have hG_2 := isQ.frame hM_1 go_.2.2.2.1 ma0_ ka0_ (by decide) (by decide) hQ_
  have hG_3 := arP.frame hM_1 go_.2.2.2.1 mp_ kp_ (by decide) (by decide) hJ_
  have hG_4 := isQ.frame hM_1 go_.2.2.2.1 mx1_ kx1_ (by decide) (by decide) hQ9_
  have hG_5 := arP.frame hM_1 go_.2.2.2.1 mp9_ kp9_ (by decide) (by decide) hJ9_
  have hU_7 := QR.fld hU_0 u_6 ka0_
  refine lv_aload_n hx hb dX3_copyFrom_8 rfl (lv_at hl 0 rfl) ?_
  refine lv_aload_n hx hb dX3_copyFrom_9 rfl (lv_at hl 1 rfl) ?_
  refine g_getk (C := RX3) (T := TX3) (N := 6) hx hb hts (mc_ inX3) hown hK g rfl 4 (by decide) rfl (hts _ (List.mem_cons_of_mem _ t_813)) (fun _ h9 => h9) 4 rfl dX3_copyFrom_10 ?_
  have go_ := g
  refine g_putX (C := RX3) (T := TX3) (N := 6) hx hb hts (mc_ inX3) tyX3 tyX3_ok nmX3 hown hK g ma0_ ka0_ (by decide) rfl 4 (by decide) (hts _ (List.mem_cons_of_mem _ t_813)) (fun _ h9 => h9) rfl rfl (okV_i bk9_) rfl rfl (by decide) (Or.inr (Or.inl (by decide))) (fx' := [(3, 0, a0_, .int n9_), (3, 2, a0_, .ref m_), (3, 3, a0_, .ref p_), (3, 2, x1_, .ref m9_), (3, 3, x1_, .ref p9_)]) rfl dX3_copyFrom_13 (fun f H locs hM_8 u_13 g => ?_)
  have hG_9 := isQ.frame hM_8 go_.2.2.2.1 ma0_ ka0_ (by decide) (by decide) hG_2
  have hG_10 := arP.frame hM_8 go_.2.2.2.1 mp_ kp_ (by decide) (by decide) hG_3
  have hG_11 := isQ.frame hM_8 go_.2.2.2.1 mx1_ kx1_ (by decide) (by decide) hG_4
  have hG_12 := arP.frame hM_8 go_.2.2.2.1 mp9_ kp9_ (by decide) (by decide) hG_5
  have hU_14 := QR.fld hU_7 u_13 ka0_
  refine lv_aload_n hx hb dX3_copyFrom_16 rfl (lv_at hl 1 rfl) ?_
  refine g_getr (K := 122) (C := RX3) (T := TX3) (N := 6) hx hb hts (mc_ inX3) hown hK g mx1_ kx1_ (by decide) rfl 1 (by decide) rfl (hts _ (List.mem_cons_of_mem _ t_804)) (fun _ h9 => h9) rfl dX3_copyFrom_17 (fun a_15 ma_15 ka_15 g => ?_)
  refine lv_iconst (v := 0) hx hb dX3_copyFrom_20 (by decide) ?_
  refine lv_aload_n hx hb dX3_copyFrom_21 rfl (lv_at hl 0 rfl) ?_
  refine g_getr (K := 122) (C := RX3) (T := TX3) (N := 6) hx hb hts (mc_ inX3) hown hK g ma0_ ka0_ (by decide) rfl 1 (by decide) rfl (hts _ (List.mem_cons_of_mem _ t_804)) (fun _ h9 => h9) rfl dX3_copyFrom_22 (fun a_16 ma_16 ka_16 g => ?_)
  refine lv_iconst (v := 0) hx hb dX3_copyFrom_25 (by decide) ?_
  refine lv_bipush (v := 10) hx hb dX3_copyFrom_26 (by decide) ?_
  have go_ := g
  refine g_copyi hx hb (hml.trans hl.1.symm) hown (hts _ (List.mem_cons_of_mem _ t_1735)) (hts _ (List.mem_cons_of_mem _ t_1142)) (hts _ (List.mem_cons_of_mem _ t_1141)) (hts _ (List.mem_cons_of_mem _ t_206)) hK g ma_15 ka_15 ma_16 ka_16 (by decide) (by decide) rfl rfl (by decide) (by decide) (by decide) (by decide) (by decide) (Nat.le_of_ble_eq_true rfl) (Nat.le_of_ble_eq_true rfl) dX3_copyFrom_28 (fun f H locs hM_17 g => ?_)
  have hG_18 := isQ.frame hM_17 go_.2.2.2.1 ma0_ ka0_ (by decide) (by decide) hG_9
  have hG_19 := arP.frame hM_17 go_.2.2.2.1 mp_ kp_ (by decide) (by decide) hG_10
  have hG_20 := isQ.frame hM_17 go_.2.2.2.1 mx1_ kx1_ (by decide) (by decide) hG_11
  have hG_21 := arP.frame hM_17 go_.2.2.2.1 mp9_ kp9_ (by decide) (by decide) hG_12
  have hG_22 := QR.frame hM_17 go_.2.2.2.1 ma0_ ka0_ (by decide) (by decide) hU_14
  refine lv_aload_n hx hb dX3_copyFrom_31 rfl (lv_at hl 1 rfl) ?_
  refine g_getk (C := RX3) (T := TX3) (N := 6) hx hb hts (mc_ inX3) hown hK g rfl 2 (by decide) rfl (hts _ (List.mem_cons_of_mem _ t_807)) (fun _ h9 => h9) 6 rfl dX3_copyFrom_32 ?_
  refine lv_iconst (v := 0) hx hb dX3_copyFrom_35 (by decide) ?_
  refine lv_aload_n hx hb dX3_copyFrom_36 rfl (lv_at hl 0 rfl) ?_
  refine g_getk (C := RX3) (T := TX3) (N := 6) hx hb hts (mc_ inX3) hown hK g rfl 2 (by decide) rfl (hts _ (List.mem_cons_of_mem _ t_807)) (fun _ h9 => h9) 4 rfl dX3_copyFrom_37 ?_
  refine lv_iconst (v := 0) hx hb dX3_copyFrom_40 (by decide) ?_
  refine lv_bipush (v := 10) hx hb dX3_copyFrom_41 (by decide) ?_
  have go_ := g
  refine g_copyiX hx hb (hml.trans hl.1.symm) hown (hts _ (List.mem_cons_of_mem _ t_1735)) (hts _ (List.mem_cons_of_mem _ t_1142)) (hts _ (List.mem_cons_of_mem _ t_1141)) (hts _ (List.mem_cons_of_mem _ t_206)) hK g mm9_ km9_ mm_ km_ (by decide) (by decide) rfl rfl (by decide) (by decide) (by decide) (by decide) (by decide) (Nat.le_of_ble_eq_true rfl) (Nat.le_of_ble_eq_true rfl) dX3_copyFrom_43 (fun f H locs hM_23 u_26 g => ?_)
  have hG_24 := arP.frame hM_23 go_.2.2.2.1 mp_ kp_ (by decide) (by decide) hG_19
  have hG_25 := arP.frame hM_23 go_.2.2.2.1 mp9_ kp9_ (by decide) (by decide) hG_21
  have hQ_27 := isQ.cm (g := fun j => if j < 10 then Q9_.1 j else Q_.1 j) hG_18 u_26.1 (fun i9 => by rw [u_26.2, show (10 : Int32).toNatClampNeg = 10 from by decide, hG_20.2.2.2.2.1, hG_18.2.2.2.2.1])
  have hU_28 := QR.mem hG_22 u_26.1 km_
  have hQ_29 := isQ.oth hG_20 u_26.1 (fun z => hap.2.1 z.symm) (fun i9 h9 z => by have h7 := (hG_20.2.2.1 i9 h9).2; rw [z] at h7; have h8 := km_; omega)
  refine lv_aload_n hx hb dX3_copyFrom_46 rfl (lv_at hl 1 rfl) ?_
  refine g_getr (K := 125) (C := RX3) (T := TX3) (N := 6) hx hb hts (mc_ inX3) hown hK g mx1_ kx1_ (by decide) rfl 5 (by decide) rfl (hts _ (List.mem_cons_of_mem _ t_815)) (fun _ h9 => h9) rfl dX3_copyFrom_47 (fun a_30 ma_30 ka_30 g => ?_)
  refine lv_iconst (v := 0) hx hb dX3_copyFrom_50 (by decide) ?_
  refine lv_aload_n hx hb dX3_copyFrom_51 rfl (lv_at hl 0 rfl) ?_
  refine g_getr (K := 125) (C := RX3) (T := TX3) (N := 6) hx hb hts (mc_ inX3) hown hK g ma0_ ka0_ (by decide) rfl 5 (by decide) rfl (hts _ (List.mem_cons_of_mem _ t_815)) (fun _ h9 => h9) rfl dX3_copyFrom_52 (fun a_31 ma_31 ka_31 g => ?_)
  refine lv_iconst (v := 0) hx hb dX3_copyFrom_55 (by decide) ?_
  refine lv_iconst (v := 3) hx hb dX3_copyFrom_56 (by decide) ?_
  have go_ := g
  refine g_copyi hx hb (hml.trans hl.1.symm) hown (hts _ (List.mem_cons_of_mem _ t_1735)) (hts _ (List.mem_cons_of_mem _ t_1142)) (hts _ (List.mem_cons_of_mem _ t_1141)) (hts _ (List.mem_cons_of_mem _ t_206)) hK g ma_30 ka_30 ma_31 ka_31 (by decide) (by decide) rfl rfl (by decide) (by decide) (by decide) (by decide) (by decide) (Nat.le_of_ble_eq_true rfl) (Nat.le_of_ble_eq_true rfl) dX3_copyFrom_57 (fun f H locs hM_32 g => ?_)
  have hG_33 := arP.frame hM_32 go_.2.2.2.1 mp_ kp_ (by decide) (by decide) hG_24
  have hG_34 := arP.frame hM_32 go_.2.2.2.1 mp9_ kp9_ (by decide) (by decide) hG_25
  have hG_35 := isQ.frame hM_32 go_.2.2.2.1 ma0_ ka0_ (by decide) (by decide) hQ_27
  have hG_36 := QR.frame hM_32 go_.2.2.2.1 ma0_ ka0_ (by decide) (by decide) hU_28
  have hG_37 := isQ.frame hM_32 go_.2.2.2.1 mx1_ kx1_ (by decide) (by decide) hQ_29
  refine lv_iconst (v := 0) hx hb dX3_copyFrom_60 (by decide) ?_
  refine lv_istore_n (lv' := [(2, .int 0), (0, .ref a0_), (1, .ref x1_)]) hx hb dX3_copyFrom_61 rfl hl (by decide) rfl (fun ls hl => ?_)
  have loop_38 : ∀ (n : Nat) (v62_2 : Int32), bd 0 10 v62_2 → (10 - v62_2.toInt < (n : Int)) → ∀ (f : Nat → va_E) (H : Heap) (locs : List Loc) (ls : Array Slot), G3 (dC, dI) L kd tys s f0 [(3, 0), (3, 4)] [103, 122, 123, 125] f H locs [(3, 5, a0_, .ref a_31), (3, 5, x1_, .ref a_30), (3, 1, a0_, .ref a_16), (3, 1, x1_, .ref a_15), (3, 4, a0_, .int k9_), (3, 0, a0_, .int n9_), (3, 2, a0_, .ref m_), (3, 3, a0_, .ref p_), (3, 2, x1_, .ref m9_), (3, 3, x1_, .ref p9_)] → (∃ Q1 : RQ, isQ L kd f m_ A_ Q1 ∧ arP f p_ A_ ∧ QR L kd f0 f a0_ m_ A_ ∧ isQ L kd f m9_ A9_ Q9_ ∧ arP f p9_ A9_ ∧ True ∧ (∀ j, j < 10 → Q1.1 j = Q9_.1 j) ∧ ∀ j, j < v62_2.toNatClampNeg → Q1.2 j = Q9_.2 j) → lv_has ls 3 [(2, .int v62_2), (0, .ref a0_), (1, .ref x1_)] → W p l e ({ frames := 1, cells := 0, slots := 0, locals := 40 } : Room) s m [.ref a0_, .ref x1_].toArray below meth c H locs 0 0 Q (F0 m 62 ls []) := by
    intro n62
    induction n62 with
    | zero =>
      intro v62_2 bv62_2 hm62 f H locs ls g  ⟨Q62, hQ62, hJ62, hU62, hQ962, hJ962, hw62, c1_62, c2_62⟩ hl
      exact absurd hm62 (by have h9_v62_2 := bv62_2; unfold bd at h9_v62_2; omega)
    | succ n62 ih62 =>
      intro v62_2 bv62_2 hm62 f H locs ls g  ⟨Q62, hQ62, hJ62, hU62, hQ962, hJ962, hw62, c1_62, c2_62⟩ hl
      refine lv_iload_n hx hb dX3_copyFrom_62 rfl (lv_at hl 0 rfl) ?_
      refine lv_bipush (v := 10) hx hb dX3_copyFrom_63 (by decide) ?_
      have kb_10 : bd 10 10 (10 : Int32) := ⟨by decide, by decide⟩
      refine lv_icmp_ge (tgt := 92) hx hb dX3_copyFrom_65 (by decide) (fun c_39 => ?_) (fun c_39 => ?_)
      · have fc_39 := le_f c_39
        have b_40 : bd 10 10 v62_2 := leR fc_39 kb_10 bv62_2 (by decide)
        subst hQ
        exact W.vret hx hb hr (fun t ht hW => ⟨⟨_, rfl, ⟨⟨Q62, n9_, k9_, hQ62, hU62, (fx_at g (i := 5) rfl).2.2.2, (fx_at g (i := 4) rfl).2.2.2, bn9_, bk9_, ⟨wQ.cg hw9 (fun i9 h9 => c1_62 i9 (by have h9_0 := bk9_; unfold bd at h9_0; have h9_1 := bk_; unfold bd at h9_1; have h9_2 := bn9_; unfold bd at h9_2; have h9_3 := bn_; unfold bd at h9_3; have h9_4 := b_40; unfold bd at h9_4; have h8_0 := kb_10; unfold bd at h8_0; omega)) (fun i9 h9 _ => c2_62 i9 (by have h7 := tnZ (i := v62_2) (by have h9_0 := bk9_; unfold bd at h9_0; have h9_1 := bk_; unfold bd at h9_1; have h9_2 := bn9_; unfold bd at h9_2; have h9_3 := bn_; unfold bd at h9_3; have h9_4 := b_40; unfold bd at h9_4; have h8_0 := kb_10; unfold bd at h8_0; omega); have h9_0 := bk9_; unfold bd at h9_0; have h9_1 := bk_; unfold bd at h9_1; have h9_2 := bn9_; unfold bd at h9_2; have h9_3 := bn_; unfold bd at h9_3; have h9_4 := b_40; unfold bd at h9_4; have h8_0 := kb_10; unfold bd at h8_0; omega)), rfl, rfl, fun i9 h9 => ⟨c1_62 i9 h9, c2_62 i9 (by have h7 := tnZ (i := v62_2) (by have h9_0 := bk9_; unfold bd at h9_0; have h9_1 := bk_; unfold bd at h9_1; have h9_2 := bn9_; unfold bd at h9_2; have h9_3 := bn_; unfold bd at h9_3; have h9_4 := b_40; unfold bd at h9_4; have h8_0 := kb_10; unfold bd at h8_0; omega); have h9_0 := bk9_; unfold bd at h9_0; have h9_1 := bk_; unfold bd at h9_1; have h9_2 := bn9_; unfold bd at h9_2; have h9_3 := bn_; unfold bd at h9_3; have h9_4 := b_40; unfold bd at h9_4; have h8_0 := kb_10; unfold bd at h8_0; omega)⟩⟩⟩, trivial⟩, q3_of g hK ht hW⟩, g.2.2.1.F ht⟩) g.2.2.1.2.2 dX3_copyFrom_92
      · have fc_39 := nle_f c_39
        have b_41 : bd 0 9 v62_2 := ltL fc_39 bv62_2 kb_10 (by decide)
        refine lv_aload_n hx hb dX3_copyFrom_68 rfl (lv_at hl 2 rfl) ?_
        refine g_getk (C := RX3) (T := TX3) (N := 6) hx hb hts (mc_ inX3) hown hK g rfl 3 (by decide) rfl (hts _ (List.mem_cons_of_mem _ t_810)) (fun _ h9 => h9) 9 rfl dX3_copyFrom_69 ?_
        refine lv_iload_n hx hb dX3_copyFrom_72 rfl (lv_at hl 0 rfl) ?_
        refine g_aaldX hx hb hK g mp9_ kp9_ (by decide) rfl (by decide) (in_bd b_41 (by decide)) dX3_copyFrom_73 (fun a_42 ea_42 ma_42 ua_42 wa_42 => ?_)
        have ka_42 : kd a_42 = 103 := by omega
        have lta_42 : v62_2.toNatClampNeg < 10 := in_toNat (in_bd b_41 (by decide))
        have qa_42 : a_42 = A9_ v62_2.toNatClampNeg := ea_42.trans (hJ962 _ lta_42)
        refine lv_iconst (v := 0) hx hb dX3_copyFrom_74 (by decide) ?_
        refine lv_aload_n hx hb dX3_copyFrom_75 rfl (lv_at hl 1 rfl) ?_
        refine g_getk (C := RX3) (T := TX3) (N := 6) hx hb hts (mc_ inX3) hown hK g rfl 3 (by decide) rfl (hts _ (List.mem_cons_of_mem _ t_810)) (fun _ h9 => h9) 7 rfl dX3_copyFrom_76 ?_
        refine lv_iload_n hx hb dX3_copyFrom_79 rfl (lv_at hl 0 rfl) ?_
        refine g_aaldX hx hb hK g mp_ kp_ (by decide) rfl (by decide) (in_bd b_41 (by decide)) dX3_copyFrom_80 (fun a_43 ea_43 ma_43 ua_43 wa_43 => ?_)
        have ka_43 : kd a_43 = 103 := by omega
        have lta_43 : v62_2.toNatClampNeg < 10 := in_toNat (in_bd b_41 (by decide))
        have qa_43 : a_43 = A_ v62_2.toNatClampNeg := ea_43.trans (hJ62 _ lta_43)
        refine lv_iconst (v := 0) hx hb dX3_copyFrom_81 (by decide) ?_
        refine lv_iconst (v := 3) hx hb dX3_copyFrom_82 (by decide) ?_
        have go_ := g
        refine g_copyiX hx hb (hml.trans hl.1.symm) hown (hts _ (List.mem_cons_of_mem _ t_1735)) (hts _ (List.mem_cons_of_mem _ t_1142)) (hts _ (List.mem_cons_of_mem _ t_1141)) (hts _ (List.mem_cons_of_mem _ t_206)) hK g ma_42 ka_42 ma_43 ka_43 (by decide) (by decide) rfl rfl (by decide) (by decide) (by decide) (by decide) (by decide) (Nat.le_of_ble_eq_true rfl) (Nat.le_of_ble_eq_true rfl) dX3_copyFrom_83 (fun f H locs hM_44 u_47 g => ?_)
        have hG_45 := arP.frame hM_44 go_.2.2.2.1 mp_ kp_ (by decide) (by decide) hJ62
        have hG_46 := arP.frame hM_44 go_.2.2.2.1 mp9_ kp9_ (by decide) (by decide) hJ962
        have hQ_48 := isQ.ca (x := Q9_.2 v62_2.toNatClampNeg) hQ62 lta_43 qa_43 u_47.1 (by rw [u_47.2, if_pos (by decide), qa_42]; exact hQ962.2.2.2.2.2 _ lta_42)
        have hU_49 := QR.arg hU62 lta_43 qa_43 u_47.1 ka_43
        have hQ_50 := isQ.oth hQ962 u_47.1 (fun z => by have h9 := hQ962.2.1; rw [z] at h9; have h8 := ka_43; omega) (fun i9 h9 z => hap.2.2 _ i9 lta_43 h9 (qa_43.symm.trans z.symm))
        have kb_1 : bd 1 1 (1 : Int32) := ⟨by decide, by decide⟩
        obtain ⟨y_51, ey_51⟩ : ∃ z : Int32, z = v62_2 + 1 := ⟨_, rfl⟩
        refine lv_iinc (v := y_51) (lv' := [(2, .int y_51), (0, .ref a0_), (1, .ref x1_)]) hx hb dX3_copyFrom_86 hl (k := 0) rfl (by rw [ey_51]; rfl) (by decide) rfl (fun ls hl => ?_)
        have ty_51 := add_bd ey_51 b_41 kb_1 (by decide)
        have b_52 : bd 1 10 y_51 := add_rg ty_51 b_41 kb_1 (by decide)
        refine lv_goto (tgt := 62) hx hb dX3_copyFrom_89 (by decide) ?_
        have hl9 := lv_sub hl [0, 1, 2] (by rfl : lv_pick [(2, .int y_51), (0, .ref a0_), (1, .ref x1_)] [0, 1, 2] = [(2, .int y_51), (0, .ref a0_), (1, .ref x1_)])
        have g9 := g.sub (fx' := [(3, 5, a0_, .ref a_31), (3, 5, x1_, .ref a_30), (3, 1, a0_, .ref a_16), (3, 1, x1_, .ref a_15), (3, 4, a0_, .int k9_), (3, 0, a0_, .int n9_), (3, 2, a0_, .ref m_), (3, 3, a0_, .ref p_), (3, 2, x1_, .ref m9_), (3, 3, x1_, .ref p9_)]) [0, 1, 2, 3, 4, 5, 6, 7, 8, 9] rfl
        exact ih62  y_51 (bd_sub b_52 (by decide)) (by have h9_0 := b_52; unfold bd at h9_0; have h9_1 := bv62_2; unfold bd at h9_1; have h9_2 := kb_1; unfold bd at h9_2; have h9_3 := kb_10; unfold bd at h9_3; omega) _ _ _ _ g9 ⟨_, hQ_48, hG_45, hU_49, hQ_50, hG_46, trivial, c1_62, (cp_s c2_62 (by have h9 := tnZ (i := y_51) (by have h5 := b_52; unfold bd at h5; omega); have h8 := tnZ b_41.1; have h9_0 := bk9_; unfold bd at h9_0; have h9_1 := bk_; unfold bd at h9_1; have h9_2 := bn9_; unfold bd at h9_2; have h9_3 := bn_; unfold bd at h9_3; have h9_4 := b_41; unfold bd at h9_4; have h9_5 := b_52; unfold bd at h9_5; have h8_0 := kb_1; unfold bd at h8_0; have h8_1 := kb_10; unfold bd at h8_1; omega))⟩ hl9
  have kb_0 : bd 0 0 (0 : Int32) := ⟨by decide, by decide⟩
  have hl9 := lv_sub hl [0, 1, 2] (by rfl : lv_pick [(2, .int 0), (0, .ref a0_), (1, .ref x1_)] [0, 1, 2] = [(2, .int 0), (0, .ref a0_), (1, .ref x1_)])
  have g9 := g.sub (fx' := [(3, 5, a0_, .ref a_31), (3, 5, x1_, .ref a_30), (3, 1, a0_, .ref a_16), (3, 1, x1_, .ref a_15), (3, 4, a0_, .int k9_), (3, 0, a0_, .int n9_), (3, 2, a0_, .ref m_), (3, 3, a0_, .ref p_), (3, 2, x1_, .ref m9_), (3, 3, x1_, .ref p9_)]) [0, 1, 2, 3, 4, 5, 6, 7, 8, 9] rfl
  exact loop_38 (23) 0 (bd_sub kb_0 (by decide)) (by have h9_0 := kb_0; unfold bd at h9_0; omega) _ _ _ _ g9 ⟨_, hG_35, hG_33, hG_36, hG_37, hG_34, trivial, (fun j9 h9 => if_pos h9), (fun j9 h9 => absurd h9 (by rw [show (0 : Int32).toNatClampNeg = 0 from by decide]; omega))⟩ hl9
set_option maxHeartbeats 4000000 in
set_option maxRecDepth 100000 in
theorem r_X6_numberBehind (l : Launch) (dC : Nat → ClassId) (dI : Nat → Nat → Nat) (L : List Nat) (kd : Nat → Nat) (tys : List (ClassId × FieldType)) (f0 : Nat → va_E) (sz : Nat) (hWT : WT L kd tys f0) (a0_ : Nat) (ma0_ : a0_ ∈ L) (ka0_ : kd a0_ = 6) (x1_ : Int32) (x2_ : Int32) : Met l yX6_numberBehind (.code yX6_numberBehind cX6_numberBehind 3 (some .int) :: lw_g) ({ frames := 0, cells := 0, slots := 0, locals := 0 }) (va_Pc [.ref a0_, .int x1_, .int x2_] (P3 (dC, dI) L tys f0 sz)) (va_Qi (fun (r : Int32) (f : Nat → va_E) => (True)) (Q3 (dC, dI) L kd tys [] [] f0 sz) (pA L sz)) 0 0 (pA L sz) := by
  refine Met.ofW (cc := cX6_numberBehind) (maxL := 3) (ret := (some .int)) (by decide) rfl ?_
  intro p e s m args below meth c s₁ B hml hv
  obtain ⟨rfl, hsz, hP, hK, hD0⟩ := hv
  have hx := B.exec
  have hb := B.bytes
  have hr := B.returns
  have hts := atoms_spec (ws := (.code yX6_numberBehind cX6_numberBehind 3 (some .int) :: lw_g)) B.pre
  have hown : s.vm.findClass RX6 = some m.cls := findClass_of_methodNamed B.named
  have hlocks := B.notSynchronized
  subst hsz
  have g : G3 (dC, dI) L kd tys s f0 [] [] f0 s.heap [] [] := G3.start hP hD0 hWT Fs.nil
  have hl := lv_entry ([.ref a0_, .int x1_, .int x2_]) (n := 3) (Nat.le_of_ble_eq_true rfl)
  rw [lg_entry_eq]
  generalize (lg_sl ([.ref a0_, .int x1_, .int x2_]) ++ List.replicate (3 - (lg_sl ([.ref a0_, .int x1_, .int x2_])).length) Slot.unset).toArray = ls at hl ⊢
  have hl : lv_has ls 3 [(0, .ref a0_), (1, .int x1_), (2, .int x2_)] := hl
  refine W_q (fun Q hQ => ?_)
  refine lv_iload_n hx hb dX6_numberBehind_0 rfl (lv_at hl 1 rfl) ?_
  have kb_0 : bd 0 0 (0 : Int32) := ⟨by decide, by decide⟩
  refine lv_if_lt (tgt := 9) hx hb dX6_numberBehind_1 (by decide) (fun c_1 => ?_) (fun c_1 => ?_)
  · have fc_1 := lt_f c_1
    have b_2 : bd (-2147483648) (-1) x1_ := ltL fc_1 (bdT x1_) kb_0 (by decide)
    refine lv_iload_n hx hb dX6_numberBehind_9 rfl (lv_at hl 2 rfl) ?_
    subst hQ
    exact W.iret (v := x2_) hx hb hr (fun t ht hW => ⟨⟨_, _, rfl, trivial, q3_of g hK ht hW⟩, g.2.2.1.F ht⟩) g.2.2.1.2.2 dX6_numberBehind_10
  · have fc_1 := nlt_f c_1
    have b_3 : bd 0 2147483647 x1_ := leR fc_1 kb_0 (bdT x1_) (by decide)
    refine lv_iload_n hx hb dX6_numberBehind_4 rfl (lv_at hl 1 rfl) ?_
    refine lv_iconst (v := 3) hx hb dX6_numberBehind_5 (by decide) ?_
    have kb_3 : bd 3 3 (3 : Int32) := ⟨by decide, by decide⟩
    refine lv_icmp_lt (tgt := 11) hx hb dX6_numberBehind_6 (by decide) (fun c_4 => ?_) (fun c_4 => ?_)
    · have fc_4 := lt_f c_4
      have b_5 : bd 0 2 x1_ := ltL fc_4 b_3 kb_3 (by decide)
      refine lv_iload_n hx hb dX6_numberBehind_11 rfl (lv_at hl 2 rfl) ?_
      refine lv_if_ge (tgt := 36) hx hb dX6_numberBehind_12 (by decide) (fun c_6 => ?_) (fun c_6 => ?_)
      · have fc_6 := le_f c_6
        have b_7 : bd 0 2147483647 x2_ := leR fc_6 kb_0 (bdT x2_) (by decide)
        refine lv_aload_n hx hb dX6_numberBehind_36 rfl (lv_at hl 0 rfl) ?_
        refine g_getr (K := 135) (C := RX6) (T := TX6) (N := 13) hx hb hts (mc_ inX6) hown hK g ma0_ ka0_ (by decide) rfl 5 (by decide) rfl (hts _ (List.mem_cons_of_mem _ t_573)) (fun _ h9 => h9) rfl dX6_numberBehind_37 (fun a_8 ma_8 ka_8 g => ?_)
        refine lv_iload_n hx hb dX6_numberBehind_40 rfl (lv_at hl 1 rfl) ?_
        refine g_iald hx hb hK g ma_8 ka_8 (by decide) rfl (in_bd b_5 (by decide)) dX6_numberBehind_41 (fun x_9 bx_9 cx_9 => ?_)
        subst hQ
        exact W.iret (v := x_9) hx hb hr (fun t ht hW => ⟨⟨_, _, rfl, trivial, q3_of g hK ht hW⟩, g.2.2.1.F ht⟩) g.2.2.1.2.2 dX6_numberBehind_42
      · have fc_6 := nle_f c_6
        have b_10 : bd (-2147483648) (-1) x2_ := ltL fc_6 (bdT x2_) kb_0 (by decide)
        refine lv_iload_n hx hb dX6_numberBehind_15 rfl (lv_at hl 2 rfl) ?_
        refine lv_aload_n hx hb dX6_numberBehind_16 rfl (lv_at hl 0 rfl) ?_
        refine g_getr (K := 134) (C := RX6) (T := TX6) (N := 13) hx hb hts (mc_ inX6) hown hK g ma0_ ka0_ (by decide) rfl 4 (by decide) rfl (hts _ (List.mem_cons_of_mem _ t_569)) (fun _ h9 => h9) rfl dX6_numberBehind_17 (fun a_11 ma_11 ka_11 g => ?_)
        refine lv_iload_n hx hb dX6_numberBehind_20 rfl (lv_at hl 1 rfl) ?_
        refine g_iald hx hb hK g ma_11 ka_11 (by decide) rfl (in_bd b_5 (by decide)) dX6_numberBehind_21 (fun x_12 bx_12 cx_12 => ?_)
        refine lv_icmp_ne (tgt := 36) hx hb dX6_numberBehind_22 (by decide) (fun c_13 => ?_) (fun c_13 => ?_)
        · have fc_13 := neq_f c_13
          refine lv_aload_n hx hb dX6_numberBehind_36 rfl (lv_at hl 0 rfl) ?_
          refine g_getr (K := 135) (C := RX6) (T := TX6) (N := 13) hx hb hts (mc_ inX6) hown hK g ma0_ ka0_ (by decide) rfl 5 (by decide) rfl (hts _ (List.mem_cons_of_mem _ t_573)) (fun _ h9 => h9) rfl dX6_numberBehind_37 (fun a_14 ma_14 ka_14 g => ?_)
          refine lv_iload_n hx hb dX6_numberBehind_40 rfl (lv_at hl 1 rfl) ?_
          refine g_iald hx hb hK g ma_14 ka_14 (by decide) rfl (in_bd b_5 (by decide)) dX6_numberBehind_41 (fun x_15 bx_15 cx_15 => ?_)
          subst hQ
          exact W.iret (v := x_15) hx hb hr (fun t ht hW => ⟨⟨_, _, rfl, trivial, q3_of g hK ht hW⟩, g.2.2.1.F ht⟩) g.2.2.1.2.2 dX6_numberBehind_42
        · have fc_13 := eq_f c_13
          have b_16 : bd (-2147483648) (-1) x_12 := eqX fc_13.symm (bdT x_12) b_10 (by decide)
          refine lv_aload_n hx hb dX6_numberBehind_25 rfl (lv_at hl 0 rfl) ?_
          refine g_getr (K := 135) (C := RX6) (T := TX6) (N := 13) hx hb hts (mc_ inX6) hown hK g ma0_ ka0_ (by decide) rfl 5 (by decide) rfl (hts _ (List.mem_cons_of_mem _ t_573)) (fun _ h9 => h9) rfl dX6_numberBehind_26 (fun a_17 ma_17 ka_17 g => ?_)
          refine lv_iload_n hx hb dX6_numberBehind_29 rfl (lv_at hl 1 rfl) ?_
          refine g_iald hx hb hK g ma_17 ka_17 (by decide) rfl (in_bd b_5 (by decide)) dX6_numberBehind_30 (fun x_18 bx_18 cx_18 => ?_)
          refine lv_if_le (tgt := 36) hx hb dX6_numberBehind_31 (by decide) (fun c_19 => ?_) (fun c_19 => ?_)
          · have fc_19 := le_f c_19
            have b_20 : bd (-2147483648) 0 x_18 := leL fc_19 (bdT x_18) kb_0 (by decide)
            refine lv_aload_n hx hb dX6_numberBehind_36 rfl (lv_at hl 0 rfl) ?_
            refine g_getk (C := RX6) (T := TX6) (N := 13) hx hb hts (mc_ inX6) hown hK g rfl 5 (by decide) rfl (hts _ (List.mem_cons_of_mem _ t_573)) (fun _ h9 => h9) 0 rfl dX6_numberBehind_37 ?_
            refine lv_iload_n hx hb dX6_numberBehind_40 rfl (lv_at hl 1 rfl) ?_
            refine g_iald hx hb hK g ma_17 ka_17 (by decide) rfl (in_bd b_5 (by decide)) dX6_numberBehind_41 (fun x_21 bx_21 cx_21 => ?_)
            obtain rfl : x_18 = x_21 := el_same cx_18 cx_21 rfl
            subst hQ
            exact W.iret (v := x_18) hx hb hr (fun t ht hW => ⟨⟨_, _, rfl, trivial, q3_of g hK ht hW⟩, g.2.2.1.F ht⟩) g.2.2.1.2.2 dX6_numberBehind_42
          · have fc_19 := nle_f c_19
            have b_22 : bd 1 2147483647 x_18 := ltR fc_19 kb_0 (bdT x_18) (by decide)
            refine lv_iconst (v := 0) hx hb dX6_numberBehind_34 (by decide) ?_
            subst hQ
            exact W.iret (v := 0) hx hb hr (fun t ht hW => ⟨⟨_, _, rfl, trivial, q3_of g hK ht hW⟩, g.2.2.1.F ht⟩) g.2.2.1.2.2 dX6_numberBehind_35
    · have fc_4 := nlt_f c_4
      have b_23 : bd 3 2147483647 x1_ := leR fc_4 kb_3 b_3 (by decide)
      refine lv_iload_n hx hb dX6_numberBehind_9 rfl (lv_at hl 2 rfl) ?_
      subst hQ
      exact W.iret (v := x2_) hx hb hr (fun t ht hW => ⟨⟨_, _, rfl, trivial, q3_of g hK ht hW⟩, g.2.2.1.F ht⟩) g.2.2.1.2.2 dX6_numberBehind_10
