set_option maxHeartbeats 4000000 in
set_option maxRecDepth 100000 in
theorem r_X14_makes (l : Launch) (dC : Nat → ClassId) (dI : Nat → Nat → Nat) (L : List Nat) (kd : Nat → Nat) (tys : List (ClassId × FieldType)) (f0 : Nat → va_E) (sz : Nat) (hWT : WT L kd tys f0) (adK adV : Nat → Nat) (a0_ : Nat) (ma0_ : a0_ ∈ L) (ka0_ : kd a0_ = 14) (x1_ : Int32) (bx1_ : bd 0 9 x1_) (q0_ : Nat) (mq0_ : q0_ ∈ L) (kq0_ : kd q0_ = 12) (n_ : Int32) (bn_ : bd 0 2 n_) (V_ : PV) (δ_ : Nat → Nat) (hW : wfP V_ δ_) (O_ : Nat → Int32) (RW_ : RW) (hGOa0_ : OA f0 a0_ O_) (hGWa0_ : isW f0 a0_ RW_) (hGVq0_ : isV f0 q0_ V_) (hGmq0_ : mOK f0 q0_ V_) (hcl : okc V_ (RW_.a (3 * x1_.toNatClampNeg))) (hfx : Fs L kd f0 [(14, 1, a0_, .ref q0_), (14, 30, a0_, .int n_)]) : Met l yX14_makes (.code yX14_makes cX14_makes 4 (some .boolean) :: lw_g) ({ frames := 975, cells := 0, slots := 0, locals := 39056 }) (va_Pc [.ref a0_, .int x1_] (P3A (dC, dI) L tys f0 sz adK adV)) (va_Qi (fun (r : Int32) (f : Nat → va_E) => ((∃ O : Nat → Int32, OA f a0_ O ∧ mkO V_ O_ O n_ (RW_.a (3 * x1_.toNatClampNeg))) ∧ r = 0 ∧ ∃ z2_ : Int32, (bd 1 3 z2_ ∧ z2_.toInt = n_.toInt + 1) ∧ Fs L kd f [(14, 37, a0_, .int 0), (14, 36, a0_, .int 0), (14, 30, a0_, .int z2_)]) ∨ ((∃ O : Nat → Int32, OA f a0_ O ∧ mkO V_ O_ O n_ (RW_.a (3 * x1_.toNatClampNeg))) ∧ r = 1 ∧ ∃ z0_ : Int32, (bd 1 3 z0_ ∧ z0_.toInt = n_.toInt + 1) ∧ Fs L kd f [(14, 30, a0_, .int z0_)])) (Q3 (dC, dI) L kd tys [(14, 30), (14, 31), (14, 32), (14, 33), (14, 34), (14, 35), (14, 36), (14, 37), (14, 39), (14, 40), (14, 45), (14, 55)] [200, 215, 216, 218, 219, 220, 221, 226, 228] f0 sz) (pA L sz)) 0 0 (pA L sz) := by
  refine Met.ofW (cc := cX14_makes) (maxL := 4) (ret := (some .boolean)) (by decide) rfl ?_
  intro p e s m args below meth c s₁ B hml hv
  obtain ⟨rfl, ⟨hsz, hP, hK, hD0⟩, hAm⟩ := hv
  have hx := B.exec
  have hb := B.bytes
  have hr := B.returns
  have hts := atoms_spec (ws := (.code yX14_makes cX14_makes 4 (some .boolean) :: lw_g)) B.pre
  have hown : s.vm.findClass RX14 = some m.cls := findClass_of_methodNamed B.named
  have hlocks := B.notSynchronized
  subst hsz
  have g : G3 (dC, dI) L kd tys s f0 [(14, 30), (14, 31), (14, 32), (14, 33), (14, 34), (14, 35), (14, 36), (14, 37), (14, 39), (14, 40), (14, 45), (14, 55)] [200, 215, 216, 218, 219, 220, 221, 226, 228] f0 s.heap [] [(14, 1, a0_, .ref q0_), (14, 30, a0_, .int n_)] := G3.start hP hD0 hWT hfx
  have hl := lv_entry ([.ref a0_, .int x1_]) (n := 4) (Nat.le_of_ble_eq_true rfl)
  rw [lg_entry_eq]
  generalize (lg_sl ([.ref a0_, .int x1_]) ++ List.replicate (4 - (lg_sl ([.ref a0_, .int x1_])).length) Slot.unset).toArray = ls at hl ⊢
  have hl : lv_has ls 4 [(0, .ref a0_), (1, .int x1_)] := hl
  refine W_q (fun Q hQ => ?_)
  refine lv_aload_n hx hb dX14_makes_0 rfl (lv_at hl 0 rfl) ?_
  refine g_getk (C := RX14) (T := TX14) (N := 67) hx hb hts (mc_ inX14) hown hK g rfl 30 (by decide) rfl (hts _ (List.mem_cons_of_mem _ t_2176)) (fun _ h9 => h9) 1 rfl dX14_makes_1 ?_
  refine lv_istore_n (lv' := [(2, .int n_), (0, .ref a0_), (1, .int x1_)]) hx hb dX14_makes_4 rfl hl (by decide) rfl (fun ls hl => ?_)
  refine lv_aload_n hx hb dX14_makes_5 rfl (lv_at hl 1 rfl) ?_
  refine g_getr (K := 224) (C := RX14) (T := TX14) (N := 67) hx hb hts (mc_ inX14) hown hK g ma0_ ka0_ (by decide) rfl 48 (by decide) rfl (hts _ (List.mem_cons_of_mem _ t_2194)) (fun _ h9 => h9) rfl dX14_makes_6 (fun a_1 ma_1 ka_1 g => ?_)
  refine lv_iconst (v := 3) hx hb dX14_makes_9 (by decide) ?_
  refine lv_iload_n hx hb dX14_makes_10 rfl (lv_at hl 2 rfl) ?_
  refine lv_imul hx hb dX14_makes_11 ?_
  refine lv_topi (fun y_2 ey_2 => ?_)
  have ty_2 := cmul_bd ey_2 (c := 3) (by decide) bx1_ (by decide)
  have b_3 : bd 0 27 y_2 := mulc_rg ty_2 bx1_ (by decide)
  refine g_iald hx hb hK g ma_1 ka_1 (by decide) rfl (in_bd b_3 (by decide)) dX14_makes_12 (fun x_4 bx_4 cx_4 => ?_)
  have vx_4 := hGWa0_.at48 g 0 rfl cx_4
  have hk_5 : okc V_ x_4 := by rw [vx_4, (tri3 (by have h9_0 := bn_; unfold bd at h9_0; have h9_1 := bx1_; unfold bd at h9_1; have h9_2 := b_3; unfold bd at h9_2; omega) bx1_.1 : y_2.toNatClampNeg = 3 * x1_.toNatClampNeg)]; exact hcl
  have b_6 : bd 0 7 x_4 := ⟨hk_5.1, (by have h9 := hk_5.2; have h8 := hW.2.2.2.2.2.2.2; omega)⟩
  refine lv_istore_n (lv' := [(3, .int x_4), (2, .int n_), (0, .ref a0_), (1, .int x1_)]) hx hb dX14_makes_13 rfl hl (by decide) rfl (fun ls hl => ?_)
  refine lv_aload_n hx hb dX14_makes_14 rfl (lv_at hl 2 rfl) ?_
  refine lv_iload_n hx hb dX14_makes_15 rfl (lv_at hl 1 rfl) ?_
  refine lv_iload_n hx hb dX14_makes_16 rfl (lv_at hl 0 rfl) ?_
  have go_ := g
  refine g_callv (va_runV (As := [.int n_, .int x_4]) (rest := []) ⟨hx, hb, hml, hown, hts⟩ (r_X14_begin l dC dI L kd tys f0 s.heap.size g.2.2.2.1 a0_ ma0_ ka0_ n_ (bd_sub bn_ (by decide)) x_4 (bd_sub b_6 (by decide)) q0_ mq0_ kq0_ V_ δ_ hW O_ hGOa0_ hGVq0_ (Or.inr hk_5) (g.fcts [1] rfl)) (cwV 2 hts (gV_ t_2622 t_2624 t_143 t_198 t_2625) rfl rfl rfl (by decide +kernel) ⟨(Nat.le_of_ble_eq_true rfl), (Nat.le_of_ble_eq_true rfl)⟩) (pre3V g hK ma0_ ka0_ (by decide) (q := (RX14, TX14, 67)) rfl) rfl rfl hl.1 rfl (lv_room (Nat.le_of_ble_eq_true rfl)) dX14_makes_17 ⟨(Nat.le_of_ble_eq_true rfl), (Nat.le_of_ble_eq_true rfl)⟩) g hK (by decide) (by decide) (fx' := [(14, 48, a0_, .ref a_1), (14, 1, a0_, .ref q0_), (14, 30, a0_, .int n_)]) rfl (fun fr_7 H locs hp hMr_7 g => ?_)
  obtain ⟨hx_8, -⟩ := hp
  have hG_9 := isW.frame hMr_7 go_.2.2.2.1 ma0_ ka0_ (by decide) (by decide) hGWa0_
  have hG_10 := isV.frame hMr_7 go_.2.2.2.1 mq0_ kq0_ (by decide) (by decide) hGVq0_
  have hG_11 := mOK.frame hMr_7 go_.2.2.2.1 mq0_ kq0_ (by decide) (by decide) hGmq0_
  refine lv_aload_n hx hb dX14_makes_20 rfl (lv_at hl 2 rfl) ?_
  refine lv_iconst (v := 3) hx hb dX14_makes_21 (by decide) ?_
  refine lv_iload_n hx hb dX14_makes_22 rfl (lv_at hl 1 rfl) ?_
  have kb_3 : bd 3 3 (3 : Int32) := ⟨by decide, by decide⟩
  refine lv_iadd hx hb dX14_makes_23 ?_
  refine lv_topi (fun y_12 ey_12 => ?_)
  have ty_12 := add_bd ey_12 kb_3 bn_ (by decide)
  have b_13 : bd 3 5 y_12 := add_rg ty_12 kb_3 bn_ (by decide)
  refine lv_aload_n hx hb dX14_makes_24 rfl (lv_at hl 2 rfl) ?_
  refine g_getk (C := RX14) (T := TX14) (N := 67) hx hb hts (mc_ inX14) hown hK g rfl 1 (by decide) rfl (hts _ (List.mem_cons_of_mem _ t_2147)) (fun _ h9 => h9) 1 rfl dX14_makes_25 ?_
  refine g_getr (K := 211) (C := RX12) (T := TX12) (N := 60) hx hb hts (mc_ inX12) hown hK g mq0_ kq0_ (by decide) rfl 59 (by decide) rfl (hts _ (List.mem_cons_of_mem _ t_2020)) (fun _ h9 => h9) rfl dX14_makes_28 (fun a_14 ma_14 ka_14 g => ?_)
  refine lv_iload_n hx hb dX14_makes_31 rfl (lv_at hl 0 rfl) ?_
  refine g_iald hx hb hK g ma_14 ka_14 (by decide) rfl (in_bd b_6 (by decide)) dX14_makes_32 (fun x_15 bx_15 cx_15 => ?_)
  have hb_16 := hG_11.at g 0 rfl cx_15 hk_5
  have go_ := g
  refine g_callv (va_runV (As := [.int y_12, .int x_15]) (rest := []) ⟨hx, hb, hml, hown, hts⟩ (r_X14_begin l dC dI L kd tys fr_7 H.size g.2.2.2.1 a0_ ma0_ ka0_ y_12 (bd_sub b_13 (by decide)) x_15 bx_15 q0_ mq0_ kq0_ V_ δ_ hW (fun j => if j = n_.toNatClampNeg then x_4 else O_ j) hx_8 hG_10 hb_16 (g.fcts [2] rfl)) (cwV 2 hts (gV_ t_2622 t_2624 t_143 t_198 t_2625) rfl rfl rfl (by decide +kernel) ⟨(Nat.le_of_ble_eq_true rfl), (Nat.le_of_ble_eq_true rfl)⟩) (pre3V g hK ma0_ ka0_ (by decide) (q := (RX14, TX14, 67)) rfl) rfl rfl hl.1 rfl (lv_room (Nat.le_of_ble_eq_true rfl)) dX14_makes_33 ⟨(Nat.le_of_ble_eq_true rfl), (Nat.le_of_ble_eq_true rfl)⟩) g hK (by decide) (by decide) (fx' := [(12, 59, q0_, .ref a_14), (14, 48, a0_, .ref a_1), (14, 1, a0_, .ref q0_), (14, 30, a0_, .int n_)]) rfl (fun fr_17 H locs hp hMr_17 g => ?_)
  obtain ⟨hx_18, -⟩ := hp
  have hG_19 := isW.frame hMr_17 go_.2.2.2.1 ma0_ ka0_ (by decide) (by decide) hG_9
  have hG_20 := isV.frame hMr_17 go_.2.2.2.1 mq0_ kq0_ (by decide) (by decide) hG_10
  have hG_21 := mOK.frame hMr_17 go_.2.2.2.1 mq0_ kq0_ (by decide) (by decide) hG_11
  refine lv_aload_n hx hb dX14_makes_36 rfl (lv_at hl 2 rfl) ?_
  refine lv_dup hx hb dX14_makes_37 rfl ?_
  refine g_getk (C := RX14) (T := TX14) (N := 67) hx hb hts (mc_ inX14) hown hK g rfl 30 (by decide) rfl (hts _ (List.mem_cons_of_mem _ t_2176)) (fun _ h9 => h9) 3 rfl dX14_makes_38 ?_
  refine lv_iconst (v := 1) hx hb dX14_makes_41 (by decide) ?_
  have kb_1 : bd 1 1 (1 : Int32) := ⟨by decide, by decide⟩
  refine lv_iadd hx hb dX14_makes_42 ?_
  refine lv_topi (fun y_22 ey_22 => ?_)
  have ty_22 := add_bd ey_22 bn_ kb_1 (by decide)
  have b_23 : bd 1 3 y_22 := add_rg ty_22 bn_ kb_1 (by decide)
  have go_ := g
  refine g_put (C := RX14) (T := TX14) (N := 67) hx hb hts (mc_ inX14) tyX14 tyX14_ok nmX14 hown hK g ma0_ ka0_ (by decide) rfl 30 (by decide) (hts _ (List.mem_cons_of_mem _ t_2176)) (fun _ h9 => h9) rfl rfl (okV_i (bd_sub b_23 (by decide))) rfl rfl (by decide) (Or.inr (Or.inl (by decide))) (fx' := [(12, 59, q0_, .ref a_14), (14, 48, a0_, .ref a_1), (14, 1, a0_, .ref q0_)]) rfl dX14_makes_43 (fun f H locs hM_24 g => ?_)
  have hG_25 := isW.frame hM_24 go_.2.2.2.1 ma0_ ka0_ (by decide) (by decide) hG_19
  have hG_26 := isV.frame hM_24 go_.2.2.2.1 mq0_ kq0_ (by decide) (by decide) hG_20
  have hG_27 := mOK.frame hM_24 go_.2.2.2.1 mq0_ kq0_ (by decide) (by decide) hG_21
  have hG_28 := OA.frame hM_24 go_.2.2.2.1 ma0_ ka0_ (by decide) (by decide) hx_18
  refine lv_aload_n hx hb dX14_makes_46 rfl (lv_at hl 2 rfl) ?_
  refine g_getr (K := 226) (C := RX14) (T := TX14) (N := 67) hx hb hts (mc_ inX14) hown hK g ma0_ ka0_ (by decide) rfl 50 (by decide) rfl (hts _ (List.mem_cons_of_mem _ t_2196)) (fun _ h9 => h9) rfl dX14_makes_47 (fun a_29 ma_29 ka_29 g => ?_)
  refine lv_iload_n hx hb dX14_makes_50 rfl (lv_at hl 3 rfl) ?_
  refine lv_iconst (v := 1) hx hb dX14_makes_51 (by decide) ?_
  have go_ := g
  refine g_iast hx hb hK g ma_29 ka_29 (by decide) rfl (in_bd bx1_ (by decide)) (bd_sub kb_1 (by decide)) (by decide) dX14_makes_52 (fun f H locs hM_30 g => ?_)
  have hG_31 := isW.frame hM_30 go_.2.2.2.1 ma0_ ka0_ (by decide) (by decide) hG_25
  have hG_32 := isV.frame hM_30 go_.2.2.2.1 mq0_ kq0_ (by decide) (by decide) hG_26
  have hG_33 := mOK.frame hM_30 go_.2.2.2.1 mq0_ kq0_ (by decide) (by decide) hG_27
  have hG_34 := OA.frame hM_30 go_.2.2.2.1 ma0_ ka0_ (by decide) (by decide) hG_28
  refine lv_aload_n hx hb dX14_makes_53 rfl (lv_at hl 2 rfl) ?_
  refine lv_iload_n hx hb dX14_makes_54 rfl (lv_at hl 1 rfl) ?_
  have go_ := g
  refine g_calli (va_runV (As := [.int n_]) (rest := []) ⟨hx, hb, hml, hown, hts⟩ (r_X14_keeps l dC dI L kd tys f H.size g.2.2.2.1 adK adV a0_ ma0_ ka0_ n_ bn_ q0_ mq0_ kq0_ V_ δ_ hW (fun j => if j = y_12.toNatClampNeg then x_15 else (fun j => if j = n_.toNatClampNeg then x_4 else O_ j) j) hG_34 hG_32 (mk_here (k := y_12) hk_5 bn_.1 (by have h9_0 := bn_; unfold bd at h9_0; have h9_1 := bx1_; unfold bd at h9_1; have h9_2 := bx_15; unfold bd at h9_2; have h9_3 := b_6; unfold bd at h9_3; have h9_4 := b_13; unfold bd at h9_4; have h9_5 := b_3; unfold bd at h9_5; have h9_6 := b_23; unfold bd at h9_6; have h8_0 := kb_1; unfold bd at h8_0; have h8_1 := kb_3; unfold bd at h8_1; omega)) (g.fcts [4] rfl)) (cwV 1 hts (gV_ t_2626 t_2628 t_144 t_198 t_2629) rfl rfl rfl (by decide +kernel) ⟨(Nat.le_of_ble_eq_true rfl), (Nat.le_of_ble_eq_true rfl)⟩) (pre3VA g hK hAm ma0_ ka0_ (by decide) (q := (RX14, TX14, 67)) rfl) rfl rfl hl.1 rfl (lv_room (Nat.le_of_ble_eq_true rfl)) dX14_makes_55 ⟨(Nat.le_of_ble_eq_true rfl), (Nat.le_of_ble_eq_true rfl)⟩) g hK (by decide) (by decide) (fx' := [(14, 50, a0_, .ref a_29), (14, 30, a0_, .int y_22), (12, 59, q0_, .ref a_14), (14, 48, a0_, .ref a_1), (14, 1, a0_, .ref q0_)]) rfl (fun r_35 fr_35 H locs hp hMr_35 g => ?_)
  rcases hp with ⟨h_36, hF_37⟩ | ⟨h_38, -⟩
  · have hG_39 := isW.frame hMr_35 go_.2.2.2.1 ma0_ ka0_ (by decide) (by decide) hG_31
    have hG_40 := isV.frame hMr_35 go_.2.2.2.1 mq0_ kq0_ (by decide) (by decide) hG_32
    have hG_41 := mOK.frame hMr_35 go_.2.2.2.1 mq0_ kq0_ (by decide) (by decide) hG_33
    have hG_42 := OA.frame hMr_35 go_.2.2.2.1 ma0_ ka0_ (by decide) (by decide) hG_34
    obtain rfl : r_35 = 0 := h_36
    have g := g.more hF_37
    subst hQ
    have kb_0 : bd 0 0 (0 : Int32) := ⟨by decide, by decide⟩
    exact W.zret (v := 0) hx hb hr (nar_z (bd_sub kb_0 (by decide) : bd 0 1 _).1 (bd_sub kb_0 (by decide) : bd 0 1 _).2) (fun t ht hW => ⟨⟨_, _, rfl, Or.inl ⟨⟨_, hG_42, (by rw [← (tri3 (by have h9_0 := bn_; unfold bd at h9_0; have h9_1 := bx1_; unfold bd at h9_1; have h9_2 := bx_15; unfold bd at h9_2; have h9_3 := b_6; unfold bd at h9_3; have h9_4 := b_13; unfold bd at h9_4; have h9_5 := b_3; unfold bd at h9_5; have h9_6 := b_23; unfold bd at h9_6; have h8_0 := kb_1; unfold bd at h8_0; have h8_1 := kb_3; unfold bd at h8_1; omega) bx1_.1 : y_2.toNatClampNeg = 3 * x1_.toNatClampNeg), ← vx_4]; exact mk_of hb_16 bn_.1 (by have h9_0 := bn_; unfold bd at h9_0; have h9_1 := bx1_; unfold bd at h9_1; have h9_2 := bx_15; unfold bd at h9_2; have h9_3 := b_6; unfold bd at h9_3; have h9_4 := b_13; unfold bd at h9_4; have h9_5 := b_3; unfold bd at h9_5; have h9_6 := b_23; unfold bd at h9_6; have h8_0 := kb_1; unfold bd at h8_0; have h8_1 := kb_3; unfold bd at h8_1; omega))⟩, rfl, y_22, ⟨b_23, (by have h9_0 := bn_; unfold bd at h9_0; have h9_1 := bx1_; unfold bd at h9_1; have h9_2 := bx_15; unfold bd at h9_2; have h9_3 := b_6; unfold bd at h9_3; have h9_4 := b_13; unfold bd at h9_4; have h9_5 := b_3; unfold bd at h9_5; have h9_6 := b_23; unfold bd at h9_6; have h8_0 := kb_1; unfold bd at h8_0; have h8_1 := kb_3; unfold bd at h8_1; omega)⟩, (g.fcts [0, 1, 3] rfl)⟩, q3_of g hK ht hW⟩, g.2.2.1.F ht⟩) g.2.2.1.2.2 dX14_makes_58
  · have hG_43 := isW.frame hMr_35 go_.2.2.2.1 ma0_ ka0_ (by decide) (by decide) hG_31
    have hG_44 := isV.frame hMr_35 go_.2.2.2.1 mq0_ kq0_ (by decide) (by decide) hG_32
    have hG_45 := mOK.frame hMr_35 go_.2.2.2.1 mq0_ kq0_ (by decide) (by decide) hG_33
    have hG_46 := OA.frame hMr_35 go_.2.2.2.1 ma0_ ka0_ (by decide) (by decide) hG_34
    obtain rfl : r_35 = 1 := h_38
    subst hQ
    exact W.zret (v := 1) hx hb hr (nar_z (bd_sub kb_1 (by decide) : bd 0 1 _).1 (bd_sub kb_1 (by decide) : bd 0 1 _).2) (fun t ht hW => ⟨⟨_, _, rfl, Or.inr (⟨⟨_, hG_46, (by rw [← (tri3 (by have h9_0 := bn_; unfold bd at h9_0; have h9_1 := bx1_; unfold bd at h9_1; have h9_2 := bx_15; unfold bd at h9_2; have h9_3 := b_6; unfold bd at h9_3; have h9_4 := b_13; unfold bd at h9_4; have h9_5 := b_3; unfold bd at h9_5; have h9_6 := b_23; unfold bd at h9_6; have h8_0 := kb_1; unfold bd at h8_0; have h8_1 := kb_3; unfold bd at h8_1; omega) bx1_.1 : y_2.toNatClampNeg = 3 * x1_.toNatClampNeg), ← vx_4]; exact mk_of hb_16 bn_.1 (by have h9_0 := bn_; unfold bd at h9_0; have h9_1 := bx1_; unfold bd at h9_1; have h9_2 := bx_15; unfold bd at h9_2; have h9_3 := b_6; unfold bd at h9_3; have h9_4 := b_13; unfold bd at h9_4; have h9_5 := b_3; unfold bd at h9_5; have h9_6 := b_23; unfold bd at h9_6; have h8_0 := kb_1; unfold bd at h8_0; have h8_1 := kb_3; unfold bd at h8_1; omega))⟩, rfl, y_22, ⟨b_23, (by have h9_0 := bn_; unfold bd at h9_0; have h9_1 := bx1_; unfold bd at h9_1; have h9_2 := bx_15; unfold bd at h9_2; have h9_3 := b_6; unfold bd at h9_3; have h9_4 := b_13; unfold bd at h9_4; have h9_5 := b_3; unfold bd at h9_5; have h9_6 := b_23; unfold bd at h9_6; have h8_0 := kb_1; unfold bd at h8_0; have h8_1 := kb_3; unfold bd at h8_1; omega)⟩, (g.fcts [1] rfl)⟩), q3_of g hK ht hW⟩, g.2.2.1.F ht⟩) g.2.2.1.2.2 dX14_makes_58
set_option maxHeartbeats 4000000 in
set_option maxRecDepth 100000 in
theorem r_X14_runRow (l : Launch) (dC : Nat → ClassId) (dI : Nat → Nat → Nat) (L : List Nat) (kd : Nat → Nat) (tys : List (ClassId × FieldType)) (f0 : Nat → va_E) (sz : Nat) (hWT : WT L kd tys f0) (adK adV : Nat → Nat) (a0_ : Nat) (ma0_ : a0_ ∈ L) (ka0_ : kd a0_ = 14) (q0_ : Nat) (mq0_ : q0_ ∈ L) (kq0_ : kd q0_ = 12) (r_ : Int32) (br_ : bd 0 10 r_) (k_ : Int32) (bk_ : bd 0 3 k_) (V_ : PV) (δ_ : Nat → Nat) (hW : wfP V_ δ_) (O_ : Nat → Int32) (RW_ : RW) (hGOa0_ : OA f0 a0_ O_) (hGWa0_ : isW f0 a0_ RW_) (hGVq0_ : isV f0 q0_ V_) (hGmq0_ : mOK f0 q0_ V_) (hrw : rwOK V_ RW_ r_ k_) (hfx : Fs L kd f0 [(14, 1, a0_, .ref q0_), (14, 51, a0_, .int r_), (14, 52, a0_, .int k_)]) : Met l yX14_runRow (.code yX14_runRow cX14_runRow 3 (some .int) :: lw_g) ({ frames := 976, cells := 0, slots := 0, locals := 39095 }) (va_Pc [.ref a0_] (P3A (dC, dI) L tys f0 sz adK adV)) (va_Qi (fun (r : Int32) (f : Nat → va_E) => ((oOK f a0_ V_) ∧ Fs L kd f [(14, 53, a0_, .int 0)])) (Q3 (dC, dI) L kd tys [(14, 30), (14, 31), (14, 32), (14, 33), (14, 34), (14, 35), (14, 36), (14, 37), (14, 38), (14, 39), (14, 40), (14, 45), (14, 53), (14, 55)] [200, 215, 216, 217, 218, 219, 220, 221, 225, 226, 228, 229] f0 sz) (pA L sz)) 0 0 (pA L sz) := by
  refine Met.ofW (cc := cX14_runRow) (maxL := 3) (ret := (some .int)) (by decide) rfl ?_
  intro p e s m args below meth c s₁ B hml hv
  obtain ⟨rfl, ⟨hsz, hP, hK, hD0⟩, hAm⟩ := hv
  have hx := B.exec
  have hb := B.bytes
  have hr := B.returns
  have hts := atoms_spec (ws := (.code yX14_runRow cX14_runRow 3 (some .int) :: lw_g)) B.pre
  have hown : s.vm.findClass RX14 = some m.cls := findClass_of_methodNamed B.named
  have hlocks := B.notSynchronized
  subst hsz
  have g : G3 (dC, dI) L kd tys s f0 [(14, 30), (14, 31), (14, 32), (14, 33), (14, 34), (14, 35), (14, 36), (14, 37), (14, 38), (14, 39), (14, 40), (14, 45), (14, 53), (14, 55)] [200, 215, 216, 217, 218, 219, 220, 221, 225, 226, 228, 229] f0 s.heap [] [(14, 1, a0_, .ref q0_), (14, 51, a0_, .int r_), (14, 52, a0_, .int k_)] := G3.start hP hD0 hWT hfx
  have hl := lv_entry ([.ref a0_]) (n := 3) (Nat.le_of_ble_eq_true rfl)
  rw [lg_entry_eq]
  generalize (lg_sl ([.ref a0_]) ++ List.replicate (3 - (lg_sl ([.ref a0_])).length) Slot.unset).toArray = ls at hl ⊢
  have hl : lv_has ls 3 [(0, .ref a0_)] := hl
  refine W_q (fun Q hQ => ?_)
  refine lv_aload_n hx hb dX14_runRow_0 rfl (lv_at hl 0 rfl) ?_
  have go_ := g
  refine g_callv (va_runV (As := []) (rest := []) ⟨hx, hb, hml, hown, hts⟩ (r_X14_untold l dC dI L kd tys f0 s.heap.size g.2.2.2.1 a0_ ma0_ ka0_) (cwV 0 hts (gV_ t_2562 t_2564 t_136 t_198 t_2565) rfl rfl rfl (by decide +kernel) ⟨(Nat.le_of_ble_eq_true rfl), (Nat.le_of_ble_eq_true rfl)⟩) (pre3V g hK ma0_ ka0_ (by decide) (q := (RX14, TX14, 67)) rfl) rfl rfl hl.1 rfl (lv_room (Nat.le_of_ble_eq_true rfl)) dX14_runRow_1 ⟨(Nat.le_of_ble_eq_true rfl), (Nat.le_of_ble_eq_true rfl)⟩) g hK (by decide) (by decide) (fx' := [(14, 1, a0_, .ref q0_), (14, 51, a0_, .int r_), (14, 52, a0_, .int k_)]) rfl (fun fr_1 H locs hp hMr_1 g => ?_)
  have hF_2 := hp
  have hG_3 := OA.frame hMr_1 go_.2.2.2.1 ma0_ ka0_ (by decide) (by decide) hGOa0_
  have hG_4 := isW.frame hMr_1 go_.2.2.2.1 ma0_ ka0_ (by decide) (by decide) hGWa0_
  have hG_5 := isV.frame hMr_1 go_.2.2.2.1 mq0_ kq0_ (by decide) (by decide) hGVq0_
  have hG_6 := mOK.frame hMr_1 go_.2.2.2.1 mq0_ kq0_ (by decide) (by decide) hGmq0_
  have g := g.more hF_2
  refine lv_aload_n hx hb dX14_runRow_4 rfl (lv_at hl 0 rfl) ?_
  refine lv_iconst (v := 0) hx hb dX14_runRow_5 (by decide) ?_
  have kb_0 : bd 0 0 (0 : Int32) := ⟨by decide, by decide⟩
  have go_ := g
  refine g_put (C := RX14) (T := TX14) (N := 67) hx hb hts (mc_ inX14) tyX14 tyX14_ok nmX14 hown hK g ma0_ ka0_ (by decide) rfl 53 (by decide) (hts _ (List.mem_cons_of_mem _ t_2199)) (fun _ h9 => h9) rfl rfl (okV_i (bd_sub kb_0 (by decide))) rfl rfl (by decide) (Or.inr (Or.inl (by decide))) (fx' := [(14, 30, a0_, .int 0), (14, 55, a0_, .int 0), (14, 1, a0_, .ref q0_), (14, 51, a0_, .int r_), (14, 52, a0_, .int k_)]) rfl dX14_runRow_6 (fun f H locs hM_7 g => ?_)
  have hG_8 := OA.frame hM_7 go_.2.2.2.1 ma0_ ka0_ (by decide) (by decide) hG_3
  have hG_9 := isW.frame hM_7 go_.2.2.2.1 ma0_ ka0_ (by decide) (by decide) hG_4
  have hG_10 := isV.frame hM_7 go_.2.2.2.1 mq0_ kq0_ (by decide) (by decide) hG_5
  have hG_11 := mOK.frame hM_7 go_.2.2.2.1 mq0_ kq0_ (by decide) (by decide) hG_6
  refine lv_iconst (v := 0) hx hb dX14_runRow_9 (by decide) ?_
  refine lv_istore_n (lv' := [(1, .int 0), (0, .ref a0_)]) hx hb dX14_runRow_10 rfl hl (by decide) rfl (fun ls hl => ?_)
  have loop_12 : ∀ (n : Nat) (v11_1 : Int32), bd 0 10 v11_1 → (10 - v11_1.toInt < (n : Int)) → ∀ (f : Nat → va_E) (H : Heap) (locs : List Loc) (ls : Array Slot), G3 (dC, dI) L kd tys s f0 [(14, 30), (14, 31), (14, 32), (14, 33), (14, 34), (14, 35), (14, 36), (14, 37), (14, 38), (14, 39), (14, 40), (14, 45), (14, 53), (14, 55)] [200, 215, 216, 217, 218, 219, 220, 221, 225, 226, 228, 229] f H locs [(14, 53, a0_, .int 0), (14, 30, a0_, .int 0), (14, 55, a0_, .int 0), (14, 1, a0_, .ref q0_), (14, 51, a0_, .int r_), (14, 52, a0_, .int k_)] → OA f a0_ O_ → isW f a0_ RW_ → isV f q0_ V_ → mOK f q0_ V_ → lv_has ls 3 [(1, .int v11_1), (0, .ref a0_)] → W p l e ({ frames := 976, cells := 0, slots := 0, locals := 39095 } : Room) s m [.ref a0_].toArray below meth c H locs 0 0 Q (F0 m 11 ls []) := by
    intro n11
    induction n11 with
    | zero =>
      intro v11_1 bv11_1 hm11 f H locs ls g hG11_O_a0_ hG11_W_a0_ hG11_V_q0_ hG11_m_q0_ hl
      exact absurd hm11 (by have h9_v11_1 := bv11_1; unfold bd at h9_v11_1; omega)
    | succ n11 ih11 =>
      intro v11_1 bv11_1 hm11 f H locs ls g hG11_O_a0_ hG11_W_a0_ hG11_V_q0_ hG11_m_q0_ hl
      refine lv_iload_n hx hb dX14_runRow_11 rfl (lv_at hl 0 rfl) ?_
      refine lv_aload_n hx hb dX14_runRow_12 rfl (lv_at hl 1 rfl) ?_
      refine g_getk (C := RX14) (T := TX14) (N := 67) hx hb hts (mc_ inX14) hown hK g rfl 51 (by decide) rfl (hts _ (List.mem_cons_of_mem _ t_2197)) (fun _ h9 => h9) 4 rfl dX14_runRow_13 ?_
      refine lv_icmp_ge (tgt := 39) hx hb dX14_runRow_16 (by decide) (fun c_13 => ?_) (fun c_13 => ?_)
      · have fc_13 := le_f c_13
        refine lv_iconst (v := 1) hx hb dX14_runRow_39 (by decide) ?_
        refine lv_istore_n (lv' := [(1, .int 1), (0, .ref a0_)]) hx hb dX14_runRow_40 rfl hl (by decide) rfl (fun ls hl => ?_)
        refine lv_iconst (v := 0) hx hb dX14_runRow_41 (by decide) ?_
        refine lv_istore_n (lv' := [(2, .int 0), (1, .int 1), (0, .ref a0_)]) hx hb dX14_runRow_42 rfl hl (by decide) rfl (fun ls hl => ?_)
        have loop_14 : ∀ (n : Nat) (v43_2 : Int32) (v43_1 : Int32) (w43_14_30_a0_ : Int32), bd 0 10 v43_2 → bd 0 1 v43_1 → bd 0 3 w43_14_30_a0_ → (10 - v43_2.toInt < (n : Int)) → ∀ (f : Nat → va_E) (H : Heap) (locs : List Loc) (ls : Array Slot), G3 (dC, dI) L kd tys s f0 [(14, 30), (14, 31), (14, 32), (14, 33), (14, 34), (14, 35), (14, 36), (14, 37), (14, 38), (14, 39), (14, 40), (14, 45), (14, 53), (14, 55)] [200, 215, 216, 217, 218, 219, 220, 221, 225, 226, 228, 229] f H locs [(14, 53, a0_, .int 0), (14, 30, a0_, .int w43_14_30_a0_), (14, 1, a0_, .ref q0_), (14, 51, a0_, .int r_), (14, 52, a0_, .int k_)] → isW f a0_ RW_ → isV f q0_ V_ → mOK f q0_ V_ → (∃ O : Nat → Int32, OA f a0_ O ∧ rnOK V_ RW_ O v43_2 w43_14_30_a0_) → lv_has ls 3 [(2, .int v43_2), (1, .int v43_1), (0, .ref a0_)] → W p l e ({ frames := 976, cells := 0, slots := 0, locals := 39095 } : Room) s m [.ref a0_].toArray below meth c H locs 0 0 Q (F0 m 43 ls []) := by
          intro n43
          induction n43 with
          | zero =>
            intro v43_2 v43_1 w43_14_30_a0_ bv43_2 bv43_1 bw43_14_30_a0_ hm43 f H locs ls g hG43_W_a0_ hG43_V_q0_ hG43_m_q0_ ⟨O43, hO43, hI43⟩ hl
            exact absurd hm43 (by have h9_v43_2 := bv43_2; unfold bd at h9_v43_2; have h9_v43_1 := bv43_1; unfold bd at h9_v43_1; have h9_w43_14_30_a0_ := bw43_14_30_a0_; unfold bd at h9_w43_14_30_a0_; omega)
          | succ n43 ih43 =>
            intro v43_2 v43_1 w43_14_30_a0_ bv43_2 bv43_1 bw43_14_30_a0_ hm43 f H locs ls g hG43_W_a0_ hG43_V_q0_ hG43_m_q0_ ⟨O43, hO43, hI43⟩ hl
            refine lv_iload_n hx hb dX14_runRow_43 rfl (lv_at hl 0 rfl) ?_
            refine lv_aload_n hx hb dX14_runRow_44 rfl (lv_at hl 2 rfl) ?_
            refine g_getk (C := RX14) (T := TX14) (N := 67) hx hb hts (mc_ inX14) hown hK g rfl 51 (by decide) rfl (hts _ (List.mem_cons_of_mem _ t_2197)) (fun _ h9 => h9) 3 rfl dX14_runRow_45 ?_
            refine lv_icmp_ge (tgt := 85) hx hb dX14_runRow_48 (by decide) (fun c_15 => ?_) (fun c_15 => ?_)
            · have fc_15 := le_f c_15
              refine lv_aload_n hx hb dX14_runRow_85 rfl (lv_at hl 2 rfl) ?_
              refine g_geti (C := RX14) (T := TX14) (N := 67) hx hb hts (mc_ inX14) hown hK g ma0_ ka0_ (by decide) rfl 55 (by decide) rfl (hts _ (List.mem_cons_of_mem _ t_2201)) (fun _ h9 => h9) rfl dX14_runRow_86 (fun x_16 bx_16 g => ?_)
              subst hQ
              exact W.iret (v := x_16) hx hb hr (fun t ht hW => ⟨⟨_, _, rfl, ⟨(oOK.of hO43 g 2 rfl hI43.2.1), (g.fcts [1] rfl)⟩, q3_of g hK ht hW⟩, g.2.2.1.F ht⟩) g.2.2.1.2.2 dX14_runRow_89
            · have fc_15 := nle_f c_15
              have b_17 : bd 0 9 v43_2 := ltL fc_15 bv43_2 br_ (by decide)
              have b_18 : bd 1 10 r_ := ltR fc_15 bv43_2 br_ (by decide)
              refine lv_iload_n hx hb dX14_runRow_51 rfl (lv_at hl 1 rfl) ?_
              refine lv_if_eq (tgt := 85) hx hb dX14_runRow_52 (by decide) (fun c_19 => ?_) (fun c_19 => ?_)
              · have fc_19 := eq_f c_19
                have b_20 : bd 0 0 v43_1 := eqX fc_19 bv43_1 kb_0 (by decide)
                refine lv_aload_n hx hb dX14_runRow_85 rfl (lv_at hl 2 rfl) ?_
                refine g_geti (C := RX14) (T := TX14) (N := 67) hx hb hts (mc_ inX14) hown hK g ma0_ ka0_ (by decide) rfl 55 (by decide) rfl (hts _ (List.mem_cons_of_mem _ t_2201)) (fun _ h9 => h9) rfl dX14_runRow_86 (fun x_21 bx_21 g => ?_)
                subst hQ
                exact W.iret (v := x_21) hx hb hr (fun t ht hW => ⟨⟨_, _, rfl, ⟨(oOK.of hO43 g 2 rfl hI43.2.1), (g.fcts [1] rfl)⟩, q3_of g hK ht hW⟩, g.2.2.1.F ht⟩) g.2.2.1.2.2 dX14_runRow_89
              · have fc_19 := neq_f c_19
                have b_22 : bd 1 1 v43_1 := neX fc_19 bv43_1 kb_0 (by decide)
                refine lv_aload_n hx hb dX14_runRow_55 rfl (lv_at hl 2 rfl) ?_
                refine g_getr (K := 223) (C := RX14) (T := TX14) (N := 67) hx hb hts (mc_ inX14) hown hK g ma0_ ka0_ (by decide) rfl 47 (by decide) rfl (hts _ (List.mem_cons_of_mem _ t_2193)) (fun _ h9 => h9) rfl dX14_runRow_56 (fun a_23 ma_23 ka_23 g => ?_)
                refine lv_iload_n hx hb dX14_runRow_59 rfl (lv_at hl 0 rfl) ?_
                refine g_iald hx hb hK g ma_23 ka_23 (by decide) rfl (in_bd b_17 (by decide)) dX14_runRow_60 (fun x_24 bx_24 cx_24 => ?_)
                have vx_24 := hG43_W_a0_.at47 g 0 rfl cx_24
                refine lv_iconst (v := (-1)) hx hb dX14_runRow_61 (by decide) ?_
                have kb_m1 : bd (-1) (-1) ((-1) : Int32) := ⟨by decide, by decide⟩
                refine lv_icmp_ne (tgt := 73) hx hb dX14_runRow_62 (by decide) (fun c_25 => ?_) (fun c_25 => ?_)
                · have fc_25 := neq_f c_25
                  have b_26 : bd 0 11 x_24 := neX fc_25 bx_24 kb_m1 (by decide)
                  refine lv_aload_n hx hb dX14_runRow_73 rfl (lv_at hl 2 rfl) ?_
                  refine lv_iload_n hx hb dX14_runRow_74 rfl (lv_at hl 0 rfl) ?_
                  have go_ := g
                  refine g_calli (va_runV (As := [.int v43_2]) (rest := []) ⟨hx, hb, hml, hown, hts⟩ (r_X14_does l dC dI L kd tys f H.size g.2.2.2.1 adK adV a0_ ma0_ ka0_ v43_2 b_17 q0_ mq0_ kq0_ w43_14_30_a0_ bw43_14_30_a0_ V_ δ_ hW O43 RW_ hO43 hG43_W_a0_ hG43_V_q0_ hI43.2.1 (rn_do hI43 hrw b_17.1 fc_15 (by rw [← vx_24]; exact fc_25)) (g.fcts [3, 2] rfl)) (cwV 1 hts (gV_ t_2684 t_2686 t_158 t_198 t_2687) rfl rfl rfl (by decide +kernel) ⟨(Nat.le_of_ble_eq_true rfl), (Nat.le_of_ble_eq_true rfl)⟩) (pre3VA g hK hAm ma0_ ka0_ (by decide) (q := (RX14, TX14, 67)) rfl) rfl rfl hl.1 rfl (lv_room (Nat.le_of_ble_eq_true rfl)) dX14_runRow_75 ⟨(Nat.le_of_ble_eq_true rfl), (Nat.le_of_ble_eq_true rfl)⟩) g hK (by decide) (by decide) (fx' := [(14, 47, a0_, .ref a_23), (14, 53, a0_, .int 0), (14, 30, a0_, .int w43_14_30_a0_), (14, 1, a0_, .ref q0_), (14, 51, a0_, .int r_), (14, 52, a0_, .int k_)]) rfl (fun r_27 fr_27 H locs hp hMr_27 g => ?_)
                  rcases hp with ⟨h_28, -⟩ | ⟨h_29, -⟩
                  · have hG_30 := isW.frame hMr_27 go_.2.2.2.1 ma0_ ka0_ (by decide) (by decide) hG43_W_a0_
                    have hG_31 := isV.frame hMr_27 go_.2.2.2.1 mq0_ kq0_ (by decide) (by decide) hG43_V_q0_
                    have hG_32 := mOK.frame hMr_27 go_.2.2.2.1 mq0_ kq0_ (by decide) (by decide) hG43_m_q0_
                    have hG_33 := OA.frame hMr_27 go_.2.2.2.1 ma0_ ka0_ (by decide) (by decide) hO43
                    obtain rfl : r_27 = 0 := h_28
                    refine lv_istore_n (lv' := [(1, .int 0), (2, .int v43_2), (0, .ref a0_)]) hx hb dX14_runRow_78 rfl hl (by decide) rfl (fun ls hl => ?_)
                    have kb_1 : bd 1 1 (1 : Int32) := ⟨by decide, by decide⟩
                    obtain ⟨y_34, ey_34⟩ : ∃ z : Int32, z = v43_2 + 1 := ⟨_, rfl⟩
                    refine lv_iinc (v := y_34) (lv' := [(2, .int y_34), (1, .int 0), (0, .ref a0_)]) hx hb dX14_runRow_79 hl (k := 1) rfl (by rw [ey_34]; rfl) (by decide) rfl (fun ls hl => ?_)
                    have ty_34 := add_bd ey_34 b_17 kb_1 (by decide)
                    have b_35 : bd 1 10 y_34 := add_rg ty_34 b_17 kb_1 (by decide)
                    refine lv_goto (tgt := 43) hx hb dX14_runRow_82 (by decide) ?_
                    have hl9 := lv_sub hl [0, 1, 2] (by rfl : lv_pick [(2, .int y_34), (1, .int 0), (0, .ref a0_)] [0, 1, 2] = [(2, .int y_34), (1, .int 0), (0, .ref a0_)])
                    have g9 := g.sub (fx' := [(14, 53, a0_, .int 0), (14, 30, a0_, .int w43_14_30_a0_), (14, 1, a0_, .ref q0_), (14, 51, a0_, .int r_), (14, 52, a0_, .int k_)]) [1, 2, 3, 4, 5] rfl
                    exact ih43  y_34 0 w43_14_30_a0_ (bd_sub b_35 (by decide)) (bd_sub kb_0 (by decide)) bw43_14_30_a0_ (by have h9_0 := b_35; unfold bd at h9_0; have h9_1 := bv43_1; unfold bd at h9_1; have h9_2 := bv43_2; unfold bd at h9_2; have h9_3 := bw43_14_30_a0_; unfold bd at h9_3; have h9_4 := kb_0; unfold bd at h9_4; have h9_5 := kb_1; unfold bd at h9_5; have h9_6 := kb_m1; unfold bd at h9_6; omega) _ _ _ _ g9 hG_30 hG_31 hG_32 ⟨_, hG_33, rn_next hI43 b_17.1 (by rw [← vx_24]; exact fc_25) (by have h9_0 := bk_; unfold bd at h9_0; have h9_1 := b_18; unfold bd at h9_1; have h9_2 := bv11_1; unfold bd at h9_2; have h9_3 := b_22; unfold bd at h9_3; have h9_4 := b_17; unfold bd at h9_4; have h9_5 := bw43_14_30_a0_; unfold bd at h9_5; have h9_6 := b_26; unfold bd at h9_6; have h9_7 := b_35; unfold bd at h9_7; have h8_0 := kb_0; unfold bd at h8_0; have h8_1 := kb_1; unfold bd at h8_1; have h8_2 := kb_m1; unfold bd at h8_2; omega)⟩ hl9
                  · have hG_36 := isW.frame hMr_27 go_.2.2.2.1 ma0_ ka0_ (by decide) (by decide) hG43_W_a0_
                    have hG_37 := isV.frame hMr_27 go_.2.2.2.1 mq0_ kq0_ (by decide) (by decide) hG43_V_q0_
                    have hG_38 := mOK.frame hMr_27 go_.2.2.2.1 mq0_ kq0_ (by decide) (by decide) hG43_m_q0_
                    have hG_39 := OA.frame hMr_27 go_.2.2.2.1 ma0_ ka0_ (by decide) (by decide) hO43
                    obtain rfl : r_27 = 1 := h_29
                    refine lv_istore_n (lv' := [(1, .int 1), (2, .int v43_2), (0, .ref a0_)]) hx hb dX14_runRow_78 rfl hl (by decide) rfl (fun ls hl => ?_)
                    have kb_1 : bd 1 1 (1 : Int32) := ⟨by decide, by decide⟩
                    obtain ⟨y_40, ey_40⟩ : ∃ z : Int32, z = v43_2 + 1 := ⟨_, rfl⟩
                    refine lv_iinc (v := y_40) (lv' := [(2, .int y_40), (1, .int 1), (0, .ref a0_)]) hx hb dX14_runRow_79 hl (k := 1) rfl (by rw [ey_40]; rfl) (by decide) rfl (fun ls hl => ?_)
                    have ty_40 := add_bd ey_40 b_17 kb_1 (by decide)
                    have b_41 : bd 1 10 y_40 := add_rg ty_40 b_17 kb_1 (by decide)
                    refine lv_goto (tgt := 43) hx hb dX14_runRow_82 (by decide) ?_
                    have hl9 := lv_sub hl [0, 1, 2] (by rfl : lv_pick [(2, .int y_40), (1, .int 1), (0, .ref a0_)] [0, 1, 2] = [(2, .int y_40), (1, .int 1), (0, .ref a0_)])
                    have g9 := g.sub (fx' := [(14, 53, a0_, .int 0), (14, 30, a0_, .int w43_14_30_a0_), (14, 1, a0_, .ref q0_), (14, 51, a0_, .int r_), (14, 52, a0_, .int k_)]) [1, 2, 3, 4, 5] rfl
                    exact ih43  y_40 1 w43_14_30_a0_ (bd_sub b_41 (by decide)) (bd_sub kb_1 (by decide)) bw43_14_30_a0_ (by have h9_0 := b_41; unfold bd at h9_0; have h9_1 := bv43_1; unfold bd at h9_1; have h9_2 := bv43_2; unfold bd at h9_2; have h9_3 := bw43_14_30_a0_; unfold bd at h9_3; have h9_4 := kb_0; unfold bd at h9_4; have h9_5 := kb_1; unfold bd at h9_5; have h9_6 := kb_m1; unfold bd at h9_6; omega) _ _ _ _ g9 hG_36 hG_37 hG_38 ⟨_, hG_39, rn_next hI43 b_17.1 (by rw [← vx_24]; exact fc_25) (by have h9_0 := bk_; unfold bd at h9_0; have h9_1 := b_18; unfold bd at h9_1; have h9_2 := bv11_1; unfold bd at h9_2; have h9_3 := b_22; unfold bd at h9_3; have h9_4 := b_17; unfold bd at h9_4; have h9_5 := bw43_14_30_a0_; unfold bd at h9_5; have h9_6 := b_26; unfold bd at h9_6; have h9_7 := b_41; unfold bd at h9_7; have h8_0 := kb_0; unfold bd at h8_0; have h8_1 := kb_1; unfold bd at h8_1; have h8_2 := kb_m1; unfold bd at h8_2; omega)⟩ hl9
                · have fc_25 := eq_f c_25
                  have b_42 : bd (-1) (-1) x_24 := eqX fc_25 bx_24 kb_m1 (by decide)
                  refine lv_aload_n hx hb dX14_runRow_65 rfl (lv_at hl 2 rfl) ?_
                  refine lv_iload_n hx hb dX14_runRow_66 rfl (lv_at hl 0 rfl) ?_
                  have hmx_43 := rn_max hI43 hrw b_17.1 fc_15 (by rw [← vx_24]; have h9 := b_42; unfold bd at h9; omega) bk_.2
                  have b_44 : bd 0 2 w43_14_30_a0_ := ⟨bw43_14_30_a0_.1, hmx_43⟩
                  have go_ := g
                  refine g_calli (va_runV (As := [.int v43_2]) (rest := []) ⟨hx, hb, hml, hown, hts⟩ (r_X14_makes l dC dI L kd tys f H.size g.2.2.2.1 adK adV a0_ ma0_ ka0_ v43_2 b_17 q0_ mq0_ kq0_ w43_14_30_a0_ b_44 V_ δ_ hW O43 RW_ hO43 hG43_W_a0_ hG43_V_q0_ hG43_m_q0_ (rn_cls hrw b_17.1 fc_15 (by rw [← vx_24]; have h9 := b_42; unfold bd at h9; omega)) (g.fcts [3, 2] rfl)) (cwV 1 hts (gV_ t_2618 t_2620 t_142 t_198 t_2621) rfl rfl rfl (by decide +kernel) ⟨(Nat.le_of_ble_eq_true rfl), (Nat.le_of_ble_eq_true rfl)⟩) (pre3VA g hK hAm ma0_ ka0_ (by decide) (q := (RX14, TX14, 67)) rfl) rfl rfl hl.1 rfl (lv_room (Nat.le_of_ble_eq_true rfl)) dX14_runRow_67 ⟨(Nat.le_of_ble_eq_true rfl), (Nat.le_of_ble_eq_true rfl)⟩) g hK (by decide) (by decide) (fx' := [(14, 47, a0_, .ref a_23), (14, 53, a0_, .int 0), (14, 1, a0_, .ref q0_), (14, 51, a0_, .int r_), (14, 52, a0_, .int k_)]) rfl (fun r_45 fr_45 H locs hp hMr_45 g => ?_)
                  rcases hp with ⟨hx_46, h_47, x_48, ⟨h_49, rh_49⟩, hF_50⟩ | ⟨hx_51, h_52, x_53, ⟨h_54, rh_54⟩, hF_55⟩
                  · have hG_56 := isW.frame hMr_45 go_.2.2.2.1 ma0_ ka0_ (by decide) (by decide) hG43_W_a0_
                    have hG_57 := isV.frame hMr_45 go_.2.2.2.1 mq0_ kq0_ (by decide) (by decide) hG43_V_q0_
                    have hG_58 := mOK.frame hMr_45 go_.2.2.2.1 mq0_ kq0_ (by decide) (by decide) hG43_m_q0_
                    obtain rfl : r_45 = 0 := h_47
                    obtain ⟨O_59, hO_60, hmk_61⟩ := hx_46
                    have g := g.more hF_50
                    refine lv_goto (tgt := 78) hx hb dX14_runRow_70 (by decide) ?_
                    refine lv_istore_n (lv' := [(1, .int 0), (2, .int v43_2), (0, .ref a0_)]) hx hb dX14_runRow_78 rfl hl (by decide) rfl (fun ls hl => ?_)
                    have kb_1 : bd 1 1 (1 : Int32) := ⟨by decide, by decide⟩
                    obtain ⟨y_62, ey_62⟩ : ∃ z : Int32, z = v43_2 + 1 := ⟨_, rfl⟩
                    refine lv_iinc (v := y_62) (lv' := [(2, .int y_62), (1, .int 0), (0, .ref a0_)]) hx hb dX14_runRow_79 hl (k := 1) rfl (by rw [ey_62]; rfl) (by decide) rfl (fun ls hl => ?_)
                    have ty_62 := add_bd ey_62 b_17 kb_1 (by decide)
                    have b_63 : bd 1 10 y_62 := add_rg ty_62 b_17 kb_1 (by decide)
                    refine lv_goto (tgt := 43) hx hb dX14_runRow_82 (by decide) ?_
                    have hl9 := lv_sub hl [0, 1, 2] (by rfl : lv_pick [(2, .int y_62), (1, .int 0), (0, .ref a0_)] [0, 1, 2] = [(2, .int y_62), (1, .int 0), (0, .ref a0_)])
                    have g9 := g.sub (fx' := [(14, 53, a0_, .int 0), (14, 30, a0_, .int x_48), (14, 1, a0_, .ref q0_), (14, 51, a0_, .int r_), (14, 52, a0_, .int k_)]) [4, 2, 5, 6, 7] rfl
                    exact ih43  y_62 0 x_48 (bd_sub b_63 (by decide)) (bd_sub kb_0 (by decide)) (bd_sub h_49 (by decide)) (by have h9_0 := b_63; unfold bd at h9_0; have h9_1 := bv43_1; unfold bd at h9_1; have h9_2 := bv43_2; unfold bd at h9_2; have h9_3 := bw43_14_30_a0_; unfold bd at h9_3; have h9_4 := h_49; unfold bd at h9_4; have h9_5 := kb_0; unfold bd at h9_5; have h9_6 := kb_1; unfold bd at h9_6; have h9_7 := kb_m1; unfold bd at h9_7; omega) _ _ _ _ g9 hG_56 hG_57 hG_58 ⟨_, hO_60, rn_make hI43 hrw b_17.1 fc_15 (by rw [← vx_24]; have h9 := b_42; unfold bd at h9; omega) (by have h9_0 := bk_; unfold bd at h9_0; have h9_1 := b_18; unfold bd at h9_1; have h9_2 := bv11_1; unfold bd at h9_2; have h9_3 := b_22; unfold bd at h9_3; have h9_4 := b_17; unfold bd at h9_4; have h9_5 := b_44; unfold bd at h9_5; have h9_6 := b_42; unfold bd at h9_6; have h9_7 := h_49; unfold bd at h9_7; have h9_8 := b_63; unfold bd at h9_8; have h8_0 := kb_0; unfold bd at h8_0; have h8_1 := kb_1; unfold bd at h8_1; have h8_2 := kb_m1; unfold bd at h8_2; omega) (by have h9_0 := bk_; unfold bd at h9_0; have h9_1 := b_18; unfold bd at h9_1; have h9_2 := bv11_1; unfold bd at h9_2; have h9_3 := b_22; unfold bd at h9_3; have h9_4 := b_17; unfold bd at h9_4; have h9_5 := b_44; unfold bd at h9_5; have h9_6 := b_42; unfold bd at h9_6; have h9_7 := h_49; unfold bd at h9_7; have h9_8 := b_63; unfold bd at h9_8; have h8_0 := kb_0; unfold bd at h8_0; have h8_1 := kb_1; unfold bd at h8_1; have h8_2 := kb_m1; unfold bd at h8_2; omega) hmx_43 rfl hmk_61⟩ hl9
                  · have hG_64 := isW.frame hMr_45 go_.2.2.2.1 ma0_ ka0_ (by decide) (by decide) hG43_W_a0_
                    have hG_65 := isV.frame hMr_45 go_.2.2.2.1 mq0_ kq0_ (by decide) (by decide) hG43_V_q0_
                    have hG_66 := mOK.frame hMr_45 go_.2.2.2.1 mq0_ kq0_ (by decide) (by decide) hG43_m_q0_
                    obtain rfl : r_45 = 1 := h_52
                    obtain ⟨O_67, hO_68, hmk_69⟩ := hx_51
                    have g := g.more hF_55
                    refine lv_goto (tgt := 78) hx hb dX14_runRow_70 (by decide) ?_
                    refine lv_istore_n (lv' := [(1, .int 1), (2, .int v43_2), (0, .ref a0_)]) hx hb dX14_runRow_78 rfl hl (by decide) rfl (fun ls hl => ?_)
                    have kb_1 : bd 1 1 (1 : Int32) := ⟨by decide, by decide⟩
                    obtain ⟨y_70, ey_70⟩ : ∃ z : Int32, z = v43_2 + 1 := ⟨_, rfl⟩
                    refine lv_iinc (v := y_70) (lv' := [(2, .int y_70), (1, .int 1), (0, .ref a0_)]) hx hb dX14_runRow_79 hl (k := 1) rfl (by rw [ey_70]; rfl) (by decide) rfl (fun ls hl => ?_)
                    have ty_70 := add_bd ey_70 b_17 kb_1 (by decide)
                    have b_71 : bd 1 10 y_70 := add_rg ty_70 b_17 kb_1 (by decide)
                    refine lv_goto (tgt := 43) hx hb dX14_runRow_82 (by decide) ?_
                    have hl9 := lv_sub hl [0, 1, 2] (by rfl : lv_pick [(2, .int y_70), (1, .int 1), (0, .ref a0_)] [0, 1, 2] = [(2, .int y_70), (1, .int 1), (0, .ref a0_)])
                    have g9 := g.sub (fx' := [(14, 53, a0_, .int 0), (14, 30, a0_, .int x_53), (14, 1, a0_, .ref q0_), (14, 51, a0_, .int r_), (14, 52, a0_, .int k_)]) [2, 0, 3, 4, 5] rfl
                    exact ih43  y_70 1 x_53 (bd_sub b_71 (by decide)) (bd_sub kb_1 (by decide)) (bd_sub h_54 (by decide)) (by have h9_0 := b_71; unfold bd at h9_0; have h9_1 := bv43_1; unfold bd at h9_1; have h9_2 := bv43_2; unfold bd at h9_2; have h9_3 := bw43_14_30_a0_; unfold bd at h9_3; have h9_4 := h_54; unfold bd at h9_4; have h9_5 := kb_0; unfold bd at h9_5; have h9_6 := kb_1; unfold bd at h9_6; have h9_7 := kb_m1; unfold bd at h9_7; omega) _ _ _ _ g9 hG_64 hG_65 hG_66 ⟨_, hO_68, rn_make hI43 hrw b_17.1 fc_15 (by rw [← vx_24]; have h9 := b_42; unfold bd at h9; omega) (by have h9_0 := bk_; unfold bd at h9_0; have h9_1 := b_18; unfold bd at h9_1; have h9_2 := bv11_1; unfold bd at h9_2; have h9_3 := b_22; unfold bd at h9_3; have h9_4 := b_17; unfold bd at h9_4; have h9_5 := b_44; unfold bd at h9_5; have h9_6 := b_42; unfold bd at h9_6; have h9_7 := h_54; unfold bd at h9_7; have h9_8 := b_71; unfold bd at h9_8; have h8_0 := kb_0; unfold bd at h8_0; have h8_1 := kb_1; unfold bd at h8_1; have h8_2 := kb_m1; unfold bd at h8_2; omega) (by have h9_0 := bk_; unfold bd at h9_0; have h9_1 := b_18; unfold bd at h9_1; have h9_2 := bv11_1; unfold bd at h9_2; have h9_3 := b_22; unfold bd at h9_3; have h9_4 := b_17; unfold bd at h9_4; have h9_5 := b_44; unfold bd at h9_5; have h9_6 := b_42; unfold bd at h9_6; have h9_7 := h_54; unfold bd at h9_7; have h9_8 := b_71; unfold bd at h9_8; have h8_0 := kb_0; unfold bd at h8_0; have h8_1 := kb_1; unfold bd at h8_1; have h8_2 := kb_m1; unfold bd at h8_2; omega) hmx_43 rfl hmk_69⟩ hl9
        have kb_1 : bd 1 1 (1 : Int32) := ⟨by decide, by decide⟩
        have hl9 := lv_sub hl [0, 1, 2] (by rfl : lv_pick [(2, .int 0), (1, .int 1), (0, .ref a0_)] [0, 1, 2] = [(2, .int 0), (1, .int 1), (0, .ref a0_)])
        have g9 := g.sub (fx' := [(14, 53, a0_, .int 0), (14, 30, a0_, .int 0), (14, 1, a0_, .ref q0_), (14, 51, a0_, .int r_), (14, 52, a0_, .int k_)]) [0, 1, 3, 4, 5] rfl
        exact loop_14 (23) 0 1 0 (bd_sub kb_0 (by decide)) (bd_sub kb_1 (by decide)) (bd_sub kb_0 (by decide)) (by have h9_0 := kb_0; unfold bd at h9_0; have h9_1 := kb_1; unfold bd at h9_1; omega) _ _ _ _ g9 hG11_W_a0_ hG11_V_q0_ hG11_m_q0_ ⟨_, hG11_O_a0_, rnOK.zero⟩ hl9
      · have fc_13 := nle_f c_13
        have b_72 : bd 0 9 v11_1 := ltL fc_13 bv11_1 br_ (by decide)
        have b_73 : bd 1 10 r_ := ltR fc_13 bv11_1 br_ (by decide)
        refine lv_aload_n hx hb dX14_runRow_19 rfl (lv_at hl 1 rfl) ?_
        refine g_getr (K := 225) (C := RX14) (T := TX14) (N := 67) hx hb hts (mc_ inX14) hown hK g ma0_ ka0_ (by decide) rfl 49 (by decide) rfl (hts _ (List.mem_cons_of_mem _ t_2195)) (fun _ h9 => h9) rfl dX14_runRow_20 (fun a_74 ma_74 ka_74 g => ?_)
        refine lv_iload_n hx hb dX14_runRow_23 rfl (lv_at hl 0 rfl) ?_
        refine lv_iconst (v := 0) hx hb dX14_runRow_24 (by decide) ?_
        have go_ := g
        refine g_iast hx hb hK g ma_74 ka_74 (by decide) rfl (in_bd b_72 (by decide)) (bd_sub kb_0 (by decide)) (by decide) dX14_runRow_25 (fun f H locs hM_75 g => ?_)
        have hG_76 := OA.frame hM_75 go_.2.2.2.1 ma0_ ka0_ (by decide) (by decide) hG11_O_a0_
        have hG_77 := isW.frame hM_75 go_.2.2.2.1 ma0_ ka0_ (by decide) (by decide) hG11_W_a0_
        have hG_78 := isV.frame hM_75 go_.2.2.2.1 mq0_ kq0_ (by decide) (by decide) hG11_V_q0_
        have hG_79 := mOK.frame hM_75 go_.2.2.2.1 mq0_ kq0_ (by decide) (by decide) hG11_m_q0_
        refine lv_aload_n hx hb dX14_runRow_26 rfl (lv_at hl 1 rfl) ?_
        refine g_getr (K := 226) (C := RX14) (T := TX14) (N := 67) hx hb hts (mc_ inX14) hown hK g ma0_ ka0_ (by decide) rfl 50 (by decide) rfl (hts _ (List.mem_cons_of_mem _ t_2196)) (fun _ h9 => h9) rfl dX14_runRow_27 (fun a_80 ma_80 ka_80 g => ?_)
        refine lv_iload_n hx hb dX14_runRow_30 rfl (lv_at hl 0 rfl) ?_
        refine lv_iconst (v := 0) hx hb dX14_runRow_31 (by decide) ?_
        have go_ := g
        refine g_iast hx hb hK g ma_80 ka_80 (by decide) rfl (in_bd b_72 (by decide)) (bd_sub kb_0 (by decide)) (by decide) dX14_runRow_32 (fun f H locs hM_81 g => ?_)
        have hG_82 := OA.frame hM_81 go_.2.2.2.1 ma0_ ka0_ (by decide) (by decide) hG_76
        have hG_83 := isW.frame hM_81 go_.2.2.2.1 ma0_ ka0_ (by decide) (by decide) hG_77
        have hG_84 := isV.frame hM_81 go_.2.2.2.1 mq0_ kq0_ (by decide) (by decide) hG_78
        have hG_85 := mOK.frame hM_81 go_.2.2.2.1 mq0_ kq0_ (by decide) (by decide) hG_79
        have kb_1 : bd 1 1 (1 : Int32) := ⟨by decide, by decide⟩
        obtain ⟨y_86, ey_86⟩ : ∃ z : Int32, z = v11_1 + 1 := ⟨_, rfl⟩
        refine lv_iinc (v := y_86) (lv' := [(1, .int y_86), (0, .ref a0_)]) hx hb dX14_runRow_33 hl (k := 0) rfl (by rw [ey_86]; rfl) (by decide) rfl (fun ls hl => ?_)
        have ty_86 := add_bd ey_86 b_72 kb_1 (by decide)
        have b_87 : bd 1 10 y_86 := add_rg ty_86 b_72 kb_1 (by decide)
        refine lv_goto (tgt := 11) hx hb dX14_runRow_36 (by decide) ?_
        have hl9 := lv_sub hl [0, 1] (by rfl : lv_pick [(1, .int y_86), (0, .ref a0_)] [0, 1] = [(1, .int y_86), (0, .ref a0_)])
        have g9 := g.sub (fx' := [(14, 53, a0_, .int 0), (14, 30, a0_, .int 0), (14, 55, a0_, .int 0), (14, 1, a0_, .ref q0_), (14, 51, a0_, .int r_), (14, 52, a0_, .int k_)]) [2, 3, 4, 5, 6, 7] rfl
        exact ih11  y_86 (bd_sub b_87 (by decide)) (by have h9_0 := b_87; unfold bd at h9_0; have h9_1 := bv11_1; unfold bd at h9_1; have h9_2 := kb_0; unfold bd at h9_2; have h9_3 := kb_1; unfold bd at h9_3; omega) _ _ _ _ g9 hG_82 hG_83 hG_84 hG_85 hl9
  have hl9 := lv_sub hl [0, 1] (by rfl : lv_pick [(1, .int 0), (0, .ref a0_)] [0, 1] = [(1, .int 0), (0, .ref a0_)])
  have g9 := g.sub (fx' := [(14, 53, a0_, .int 0), (14, 30, a0_, .int 0), (14, 55, a0_, .int 0), (14, 1, a0_, .ref q0_), (14, 51, a0_, .int r_), (14, 52, a0_, .int k_)]) [0, 1, 2, 3, 4, 5] rfl
  exact loop_12 (23) 0 (bd_sub kb_0 (by decide)) (by have h9_0 := kb_0; unfold bd at h9_0; omega) _ _ _ _ g9 hG_8 hG_9 hG_10 hG_11 hl9
set_option maxHeartbeats 4000000 in
set_option maxRecDepth 100000 in
theorem r_X14_run (l : Launch) (dC : Nat → ClassId) (dI : Nat → Nat → Nat) (L : List Nat) (kd : Nat → Nat) (tys : List (ClassId × FieldType)) (f0 : Nat → va_E) (sz : Nat) (hWT : WT L kd tys f0) (adK adV : Nat → Nat) (a0_ : Nat) (ma0_ : a0_ ∈ L) (ka0_ : kd a0_ = 14) (q0_ : Nat) (mq0_ : q0_ ∈ L) (kq0_ : kd q0_ = 12) (V_ : PV) (δ_ : Nat → Nat) (hW : wfP V_ δ_) (hGoa0_ : oOK f0 a0_ V_) (hGwa0_ : rOK f0 a0_ V_) (hGVq0_ : isV f0 q0_ V_) (hGmq0_ : mOK f0 q0_ V_) (hfx : Fs L kd f0 [(14, 1, a0_, .ref q0_)]) : Met l yX14_run (.code yX14_run cX14_run 1 (some .int) :: lw_g) ({ frames := 977, cells := 0, slots := 0, locals := 39117 }) (va_Pc [.ref a0_] (P3A (dC, dI) L tys f0 sz adK adV)) (va_Qi (fun (r : Int32) (f : Nat → va_E) => ((rOK f a0_ V_) ∧ (oOK f a0_ V_) ∧ True)) (Q3 (dC, dI) L kd tys [(14, 30), (14, 31), (14, 32), (14, 33), (14, 34), (14, 35), (14, 36), (14, 37), (14, 38), (14, 39), (14, 40), (14, 45), (14, 53), (14, 55)] [200, 215, 216, 217, 218, 219, 220, 221, 225, 226, 228, 229] f0 sz) (pA L sz)) 0 0 (pA L sz) := by
  refine Met.ofW (cc := cX14_run) (maxL := 1) (ret := (some .int)) (by decide) rfl ?_
  intro p e s m args below meth c s₁ B hml hv
  obtain ⟨rfl, ⟨hsz, hP, hK, hD0⟩, hAm⟩ := hv
  have hx := B.exec
  have hb := B.bytes
  have hr := B.returns
  have hts := atoms_spec (ws := (.code yX14_run cX14_run 1 (some .int) :: lw_g)) B.pre
  have hown : s.vm.findClass RX14 = some m.cls := findClass_of_methodNamed B.named
  have hlocks := B.notSynchronized
  subst hsz
  have g : G3 (dC, dI) L kd tys s f0 [(14, 30), (14, 31), (14, 32), (14, 33), (14, 34), (14, 35), (14, 36), (14, 37), (14, 38), (14, 39), (14, 40), (14, 45), (14, 53), (14, 55)] [200, 215, 216, 217, 218, 219, 220, 221, 225, 226, 228, 229] f0 s.heap [] [(14, 1, a0_, .ref q0_)] := G3.start hP hD0 hWT hfx
  have hl := lv_entry ([.ref a0_]) (n := 1) (Nat.le_of_ble_eq_true rfl)
  rw [lg_entry_eq]
  generalize (lg_sl ([.ref a0_]) ++ List.replicate (1 - (lg_sl ([.ref a0_])).length) Slot.unset).toArray = ls at hl ⊢
  have hl : lv_has ls 1 [(0, .ref a0_)] := hl
  refine W_q (fun Q hQ => ?_)
  refine lv_aload_n hx hb dX14_run_0 rfl (lv_at hl 0 rfl) ?_
  refine g_geti (C := RX14) (T := TX14) (N := 67) hx hb hts (mc_ inX14) hown hK g ma0_ ka0_ (by decide) rfl 51 (by decide) rfl (hts _ (List.mem_cons_of_mem _ t_2197)) (fun _ h9 => h9) rfl dX14_run_1 (fun x_1 bx_1 g => ?_)
  have kb_0 : bd 0 0 (0 : Int32) := ⟨by decide, by decide⟩
  refine lv_if_ne (tgt := 12) hx hb dX14_run_4 (by decide) (fun c_2 => ?_) (fun c_2 => ?_)
  · have fc_2 := neq_f c_2
    have b_3 : bd 1 10 x_1 := neX fc_2 bx_1 kb_0 (by decide)
    refine lv_aload_n hx hb dX14_run_12 rfl (lv_at hl 0 rfl) ?_
    obtain ⟨x_4, bx_4, g⟩ := g_facti g ma0_ ka0_ (by decide) 52 rfl
    obtain ⟨R_5, hR_6, hrw_7⟩ := (id hGwa0_)
    have hrw_7 := hrw_7 x_1 x_4 (fx_at g (i := 1) rfl).2.2.2 (fx_at g (i := 0) rfl).2.2.2
    have go_ := g
    refine g_calli (va_runV (As := []) (rest := []) ⟨hx, hb, hml, hown, hts⟩ (r_X14_runRow l dC dI L kd tys f0 s.heap.size g.2.2.2.1 adK adV a0_ ma0_ ka0_ q0_ mq0_ kq0_ x_1 (bd_sub b_3 (by decide)) x_4 bx_4 V_ δ_ hW (fun j => aI f0 (rf f0 a0_ 27) j) R_5 OA.refl hR_6 hGVq0_ hGmq0_ hrw_7 (g.fcts [2, 1, 0] rfl)) (cwV 0 hts (gV_ t_2614 t_2616 t_141 t_198 t_2617) rfl rfl rfl (by decide +kernel) ⟨(Nat.le_of_ble_eq_true rfl), (Nat.le_of_ble_eq_true rfl)⟩) (pre3VA g hK hAm ma0_ ka0_ (by decide) (q := (RX14, TX14, 67)) rfl) rfl rfl hl.1 rfl (lv_room (Nat.le_of_ble_eq_true rfl)) dX14_run_13 ⟨(Nat.le_of_ble_eq_true rfl), (Nat.le_of_ble_eq_true rfl)⟩) g hK (by decide) (by decide) (fx' := [(14, 52, a0_, .int x_4), (14, 51, a0_, .int x_1), (14, 1, a0_, .ref q0_)]) rfl (fun r_8 fr_8 H locs hp hMr_8 g => ?_)
    obtain ⟨hx_9, hF_10⟩ := hp
    have hG_11 := rOK.frame hMr_8 go_.2.2.2.1 ma0_ ka0_ (by decide) (by decide) hGwa0_
    have hG_12 := isV.frame hMr_8 go_.2.2.2.1 mq0_ kq0_ (by decide) (by decide) hGVq0_
    have hG_13 := mOK.frame hMr_8 go_.2.2.2.1 mq0_ kq0_ (by decide) (by decide) hGmq0_
    have hG_14 := isW.frame hMr_8 go_.2.2.2.1 ma0_ ka0_ (by decide) (by decide) hR_6
    have g := g.more hF_10
    subst hQ
    exact W.iret (v := r_8) hx hb hr (fun t ht hW => ⟨⟨_, _, rfl, ⟨hG_11, hx_9, trivial⟩, q3_of g hK ht hW⟩, g.2.2.1.F ht⟩) g.2.2.1.2.2 dX14_run_16
  · have fc_2 := eq_f c_2
    have b_15 : bd 0 0 x_1 := eqX fc_2 bx_1 kb_0 (by decide)
    refine lv_bipush (v := (-2)) hx hb dX14_run_7 (by decide) ?_
    refine lv_goto (tgt := 16) hx hb dX14_run_9 (by decide) ?_
    subst hQ
    exact W.iret (v := (-2)) hx hb hr (fun t ht hW => ⟨⟨_, _, rfl, ⟨hGwa0_, hGoa0_, trivial⟩, q3_of g hK ht hW⟩, g.2.2.1.F ht⟩) g.2.2.1.2.2 dX14_run_16
set_option maxHeartbeats 4000000 in
set_option maxRecDepth 100000 in
theorem r_X14_argument (l : Launch) (dC : Nat → ClassId) (dI : Nat → Nat → Nat) (L : List Nat) (kd : Nat → Nat) (tys : List (ClassId × FieldType)) (f0 : Nat → va_E) (sz : Nat) (hWT : WT L kd tys f0) (a0_ : Nat) (ma0_ : a0_ ∈ L) (ka0_ : kd a0_ = 14) (x1_ : Int32) (bx1_ : bd 0 109 x1_) (x2_ : Int32) (bx2_ : bd 0 2 x2_) (q0_ : Nat) (mq0_ : q0_ ∈ L) (kq0_ : kd q0_ = 12) (V_ : PV) (δ_ : Nat → Nat) (hW : wfP V_ δ_) (hGVq0_ : isV f0 q0_ V_) (hm : ((x1_.toNatClampNeg : Nat) : Int) < (V_.n 27).toInt) (hk : x2_.toInt < (V_.i 19 x1_.toNatClampNeg).toInt) (hfx : Fs L kd f0 [(14, 1, a0_, .ref q0_)]) : Met l yX14_argument (.code yX14_argument cX14_argument 5 (some .int) :: lw_g) ({ frames := 1, cells := 0, slots := 0, locals := 25 }) (va_Pc [.ref a0_, .int x1_, .int x2_] (P3 (dC, dI) L tys f0 sz)) (va_Qi (fun (r : Int32) (f : Nat → va_E) => (True)) (Q3 (dC, dI) L kd tys [(14, 60)] [] f0 sz) (pA L sz)) 0 0 (pA L sz) := by
  refine Met.ofW (cc := cX14_argument) (maxL := 5) (ret := (some .int)) (by decide) rfl ?_
  intro p e s m args below meth c s₁ B hml hv
  obtain ⟨rfl, hsz, hP, hK, hD0⟩ := hv
  have hx := B.exec
  have hb := B.bytes
  have hr := B.returns
  have hts := atoms_spec (ws := (.code yX14_argument cX14_argument 5 (some .int) :: lw_g)) B.pre
  have hown : s.vm.findClass RX14 = some m.cls := findClass_of_methodNamed B.named
  have hlocks := B.notSynchronized
  subst hsz
  have g : G3 (dC, dI) L kd tys s f0 [(14, 60)] [] f0 s.heap [] [(14, 1, a0_, .ref q0_)] := G3.start hP hD0 hWT hfx
  have hl := lv_entry ([.ref a0_, .int x1_, .int x2_]) (n := 5) (Nat.le_of_ble_eq_true rfl)
  rw [lg_entry_eq]
  generalize (lg_sl ([.ref a0_, .int x1_, .int x2_]) ++ List.replicate (5 - (lg_sl ([.ref a0_, .int x1_, .int x2_])).length) Slot.unset).toArray = ls at hl ⊢
  have hl : lv_has ls 5 [(0, .ref a0_), (1, .int x1_), (2, .int x2_)] := hl
  refine W_q (fun Q hQ => ?_)
  refine lv_aload_n hx hb dX14_argument_0 rfl (lv_at hl 0 rfl) ?_
  refine g_getk (C := RX14) (T := TX14) (N := 67) hx hb hts (mc_ inX14) hown hK g rfl 1 (by decide) rfl (hts _ (List.mem_cons_of_mem _ t_2147)) (fun _ h9 => h9) 0 rfl dX14_argument_1 ?_
  refine g_getr (K := 176) (C := RX12) (T := TX12) (N := 60) hx hb hts (mc_ inX12) hown hK g mq0_ kq0_ (by decide) rfl 20 (by decide) rfl (hts _ (List.mem_cons_of_mem _ t_1946)) (fun _ h9 => h9) rfl dX14_argument_4 (fun a_1 ma_1 ka_1 g => ?_)
  refine lv_iconst (v := 3) hx hb dX14_argument_7 (by decide) ?_
  refine lv_iload_n hx hb dX14_argument_8 rfl (lv_at hl 1 rfl) ?_
  refine lv_imul hx hb dX14_argument_9 ?_
  refine lv_topi (fun y_2 ey_2 => ?_)
  have ty_2 := cmul_bd ey_2 (c := 3) (by decide) bx1_ (by decide)
  have b_3 : bd 0 327 y_2 := mulc_rg ty_2 bx1_ (by decide)
  refine lv_iload_n hx hb dX14_argument_10 rfl (lv_at hl 2 rfl) ?_
  refine lv_iadd hx hb dX14_argument_11 ?_
  refine lv_topi (fun y_4 ey_4 => ?_)
  have ty_4 := add_bd ey_4 b_3 bx2_ (by decide)
  have b_5 : bd 0 329 y_4 := add_rg ty_4 b_3 bx2_ (by decide)
  refine g_iald hx hb hK g ma_1 ka_1 (by decide) rfl (in_bd b_5 (by decide)) dX14_argument_12 (fun x_6 bx_6 cx_6 => ?_)
  have vx_6 : x_6 = V_.i 20 y_4.toNatClampNeg := hGVq0_.at g 0 rfl rfl cx_6
  refine lv_istore_n (lv' := [(3, .int x_6), (0, .ref a0_), (1, .int x1_), (2, .int x2_)]) hx hb dX14_argument_13 rfl hl (by decide) rfl (fun ls hl => ?_)
  refine lv_aload_n hx hb dX14_argument_14 rfl (lv_at hl 1 rfl) ?_
  refine g_getk (C := RX14) (T := TX14) (N := 67) hx hb hts (mc_ inX14) hown hK g rfl 1 (by decide) rfl (hts _ (List.mem_cons_of_mem _ t_2147)) (fun _ h9 => h9) 1 rfl dX14_argument_15 ?_
  refine g_getr (K := 177) (C := RX12) (T := TX12) (N := 60) hx hb hts (mc_ inX12) hown hK g mq0_ kq0_ (by decide) rfl 21 (by decide) rfl (hts _ (List.mem_cons_of_mem _ t_1948)) (fun _ h9 => h9) rfl dX14_argument_18 (fun a_7 ma_7 ka_7 g => ?_)
  refine lv_iconst (v := 3) hx hb dX14_argument_21 (by decide) ?_
  refine lv_iload_n hx hb dX14_argument_22 rfl (lv_at hl 2 rfl) ?_
  refine lv_imul hx hb dX14_argument_23 ?_
  refine lv_topi (fun y_8 ey_8 => ?_)
  obtain rfl : y_2 = y_8 := ey_2.trans ey_8.symm
  refine lv_iload_n hx hb dX14_argument_24 rfl (lv_at hl 3 rfl) ?_
  refine lv_iadd hx hb dX14_argument_25 ?_
  refine lv_topi (fun y_9 ey_9 => ?_)
  obtain rfl : y_4 = y_9 := ey_4.trans ey_9.symm
  refine g_iald hx hb hK g ma_7 ka_7 (by decide) rfl (in_bd b_5 (by decide)) dX14_argument_26 (fun x_10 bx_10 cx_10 => ?_)
  have vx_10 : x_10 = V_.i 21 y_4.toNatClampNeg := hGVq0_.at g 0 rfl rfl cx_10
  refine lv_istore (lv' := [(4, .int x_10), (3, .int x_6), (0, .ref a0_), (1, .int x1_), (2, .int x2_)]) hx hb dX14_argument_27 hl (by decide) rfl (fun ls hl => ?_)
  refine lv_aload_n hx hb dX14_argument_29 rfl (lv_at hl 2 rfl) ?_
  have go_ := g
  refine g_calli (va_runV (As := []) (rest := []) ⟨hx, hb, hml, hown, hts⟩ (r_X14_nextDrawn l dC dI L kd tys f0 s.heap.size g.2.2.2.1 a0_ ma0_ ka0_) (cwV 0 hts (gV_ t_2734 t_2736 t_169 t_198 t_2737) rfl rfl rfl (by decide +kernel) ⟨(Nat.le_of_ble_eq_true rfl), (Nat.le_of_ble_eq_true rfl)⟩) (pre3V g hK ma0_ ka0_ (by decide) (q := (RX14, TX14, 67)) rfl) rfl rfl hl.1 rfl (lv_room (Nat.le_of_ble_eq_true rfl)) dX14_argument_30 ⟨(Nat.le_of_ble_eq_true rfl), (Nat.le_of_ble_eq_true rfl)⟩) g hK (by decide) (by decide) (fx' := [(12, 21, q0_, .ref a_7), (12, 20, q0_, .ref a_1), (14, 1, a0_, .ref q0_)]) rfl (fun r_11 fr_11 H locs hp hMr_11 g => ?_)
  obtain ⟨h_12, -⟩ := hp
  have hG_13 := isV.frame hMr_11 go_.2.2.2.1 mq0_ kq0_ (by decide) (by decide) hGVq0_
  refine lv_iconst (v := 4) hx hb dX14_argument_33 (by decide) ?_
  have kb_4 : bd 4 4 (4 : Int32) := ⟨by decide, by decide⟩
  refine lv_irem hx hb dX14_argument_34 (by decide) ?_
  refine lv_topi (fun y_14 ey_14 => ?_)
  have b_15 : bd 0 3 y_14 := rem_rg ey_14 h_12 kb_4 (by decide)
  by_cases e_16 : y_14 = 0
  · refine lv_topi (fun z_17 ez_17 => ?_)
    obtain rfl : z_17 = 0 := ez_17.trans e_16
    have kb_0 : bd 0 0 (0 : Int32) := ⟨by decide, by decide⟩
    have b_18 : bd 0 0 y_14 := eqX (eq_f e_16) b_15 kb_0 (by decide)
    refine lv_tableIn (off := 25) (tgt := 60) hx hb dX14_argument_35 (by decide) (by decide) rfl (by decide) ?_
    refine lv_iload_n hx hb dX14_argument_60 rfl (lv_at hl 1 rfl) ?_
    subst hQ
    exact W.iret (v := x_6) hx hb hr (fun t ht hW => ⟨⟨_, _, rfl, trivial, q3_of g hK ht hW⟩, g.2.2.1.F ht⟩) g.2.2.1.2.2 dX14_argument_61
  by_cases e_19 : y_14 = 1
  · refine lv_topi (fun z_20 ez_20 => ?_)
    obtain rfl : z_20 = 1 := ez_20.trans e_19
    have kb_1 : bd 1 1 (1 : Int32) := ⟨by decide, by decide⟩
    have b_21 : bd 1 1 y_14 := eqX (eq_f e_19) b_15 kb_1 (by decide)
    refine lv_tableIn (off := 27) (tgt := 62) hx hb dX14_argument_35 (by decide) (by decide) rfl (by decide) ?_
    refine lv_iload hx hb dX14_argument_62 (lv_at hl 0 rfl) ?_
    subst hQ
    exact W.iret (v := x_10) hx hb hr (fun t ht hW => ⟨⟨_, _, rfl, trivial, q3_of g hK ht hW⟩, g.2.2.1.F ht⟩) g.2.2.1.2.2 dX14_argument_64
  by_cases e_22 : y_14 = 2
  · refine lv_topi (fun z_23 ez_23 => ?_)
    obtain rfl : z_23 = 2 := ez_23.trans e_22
    have kb_2 : bd 2 2 (2 : Int32) := ⟨by decide, by decide⟩
    have b_24 : bd 2 2 y_14 := eqX (eq_f e_22) b_15 kb_2 (by decide)
    refine lv_tableIn (off := 30) (tgt := 65) hx hb dX14_argument_35 (by decide) (by decide) rfl (by decide) ?_
    refine lv_lconst (v := 0) hx hb dX14_argument_65 (by decide) ?_
    refine lv_iload_n hx hb dX14_argument_66 rfl (lv_at hl 1 rfl) ?_
    refine lv_i2l hx hb dX14_argument_67 rfl ?_
    refine lv_topl (fun y_25 ey_25 => ?_)
    refine lv_iload hx hb dX14_argument_68 (lv_at hl 0 rfl) ?_
    refine lv_i2l hx hb dX14_argument_70 rfl ?_
    refine lv_topl (fun y_26 ey_26 => ?_)
    have go_ := g
    refine g_calli (va_runS (As := [.long 0, .long y_25, .long y_26]) (rest := []) ⟨hx, hb, hml, hown, hts⟩ (r_X14_in l dC dI L kd tys fr_11 H.size g.2.2.2.1 0 y_25 y_26) (va_cwS 3 hts (gS_ t_2448 t_2449 t_198 t_2450) rfl rfl rfl (by decide +kernel) ⟨(Nat.le_of_ble_eq_true rfl), (Nat.le_of_ble_eq_true rfl)⟩) (pre3S g hK) rfl rfl hl.1 rfl (lv_room (Nat.le_of_ble_eq_true rfl)) dX14_argument_71 ⟨(Nat.le_of_ble_eq_true rfl), (Nat.le_of_ble_eq_true rfl)⟩) g hK (by decide) (by decide) (fx' := [(12, 21, q0_, .ref a_7), (12, 20, q0_, .ref a_1), (14, 1, a0_, .ref q0_)]) rfl (fun r_27 fr_27 H locs hp hMr_27 g => ?_)
    rcases hp with ⟨hx_28, h_29, -⟩ | ⟨h_30, h_31, -⟩
    · have hG_32 := isV.frame hMr_27 go_.2.2.2.1 mq0_ kq0_ (by decide) (by decide) hG_13
      obtain rfl : r_27 = 0 := h_29
      refine lv_if_eq (tgt := 81) hx hb dX14_argument_74 (by decide) (fun c_ => ?_) (fun c_ => absurd (by decide) c_)
      refine lv_iload_n hx hb dX14_argument_81 rfl (lv_at hl 1 rfl) ?_
      subst hQ
      exact W.iret (v := x_6) hx hb hr (fun t ht hW => ⟨⟨_, _, rfl, trivial, q3_of g hK ht hW⟩, g.2.2.1.F ht⟩) g.2.2.1.2.2 dX14_argument_82
    · have hG_33 := isV.frame hMr_27 go_.2.2.2.1 mq0_ kq0_ (by decide) (by decide) hG_13
      obtain rfl : r_27 = 1 := h_30
      have f_34 : x_6.toInt ≤ (0 : Int32).toInt := in_le h_31.1 (in_v ey_25) (in_k (k := 0) (by decide) (by decide))
      have f_35 : (0 : Int32).toInt ≤ x_10.toInt := in_le h_31.2 (in_k (k := 0) (by decide) (by decide)) (in_v ey_26)
      have kb_0 : bd 0 0 (0 : Int32) := ⟨by decide, by decide⟩
      have b_36 : bd (-2147483648) 0 x_6 := leL f_34 (bdT x_6) kb_0 (by decide)
      have b_37 : bd 0 2147483647 x_10 := leR f_35 kb_0 (bdT x_10) (by decide)
      refine lv_if_eq (tgt := 81) hx hb dX14_argument_74 (by decide) (fun c_ => absurd c_ (by decide)) (fun c_ => ?_)
      refine lv_iconst (v := 0) hx hb dX14_argument_77 (by decide) ?_
      refine lv_goto (tgt := 82) hx hb dX14_argument_78 (by decide) ?_
      subst hQ
      exact W.iret (v := 0) hx hb hr (fun t ht hW => ⟨⟨_, _, rfl, trivial, q3_of g hK ht hW⟩, g.2.2.1.F ht⟩) g.2.2.1.2.2 dX14_argument_82
  refine lv_tableOut (tgt := 83) hx hb dX14_argument_35 (by have a0 : y_14.toInt ≠ 0 := fun h => e_16 (Int32.toInt_inj.mp (h.trans (by decide))); have a1 : y_14.toInt ≠ 1 := fun h => e_19 (Int32.toInt_inj.mp (h.trans (by decide))); have a2 : y_14.toInt ≠ 2 := fun h => e_22 (Int32.toInt_inj.mp (h.trans (by decide))); omega) (by decide) ?_
  refine lv_iload_n hx hb dX14_argument_83 rfl (lv_at hl 1 rfl) ?_
  refine lv_i2l hx hb dX14_argument_84 rfl ?_
  refine lv_topl (fun y_38 ey_38 => ?_)
  refine lv_aload_n hx hb dX14_argument_85 rfl (lv_at hl 2 rfl) ?_
  have go_ := g
  refine g_calli (va_runV (As := []) (rest := [.long y_38]) ⟨hx, hb, hml, hown, hts⟩ (r_X14_nextDrawn l dC dI L kd tys fr_11 H.size g.2.2.2.1 a0_ ma0_ ka0_) (cwV 0 hts (gV_ t_2734 t_2736 t_169 t_198 t_2737) rfl rfl rfl (by decide +kernel) ⟨(Nat.le_of_ble_eq_true rfl), (Nat.le_of_ble_eq_true rfl)⟩) (pre3V g hK ma0_ ka0_ (by decide) (q := (RX14, TX14, 67)) rfl) rfl rfl hl.1 rfl (lv_room (Nat.le_of_ble_eq_true rfl)) dX14_argument_86 ⟨(Nat.le_of_ble_eq_true rfl), (Nat.le_of_ble_eq_true rfl)⟩) g hK (by decide) (by decide) (fx' := [(12, 21, q0_, .ref a_7), (12, 20, q0_, .ref a_1), (14, 1, a0_, .ref q0_)]) rfl (fun r_39 fr_39 H locs hp hMr_39 g => ?_)
  obtain ⟨h_40, -⟩ := hp
  have hG_41 := isV.frame hMr_39 go_.2.2.2.1 mq0_ kq0_ (by decide) (by decide) hG_13
  refine lv_i2l hx hb dX14_argument_89 rfl ?_
  refine lv_topl (fun y_42 ey_42 => ?_)
  refine lv_iload hx hb dX14_argument_90 (lv_at hl 0 rfl) ?_
  refine lv_i2l hx hb dX14_argument_92 rfl ?_
  refine lv_topl (fun y_43 ey_43 => ?_)
  refine lv_iload_n hx hb dX14_argument_93 rfl (lv_at hl 1 rfl) ?_
  refine lv_i2l hx hb dX14_argument_94 rfl ?_
  refine lv_topl (fun y_44 ey_44 => ?_)
  refine lv_lsub hx hb dX14_argument_95 ?_
  refine lv_topl (fun y_45 ey_45 => ?_)
  refine lv_lconst (v := 1) hx hb dX14_argument_96 (by decide) ?_
  refine lv_ladd hx hb dX14_argument_97 ?_
  refine lv_topl (fun y_46 ey_46 => ?_)
  refine lv_lrem hx hb dX14_argument_98 (lnz_arg ey_43 ey_44 ey_45 ey_46 (lohi hW bx1_.1 hm bx2_.1 rfl hk (by have h9_0 := h_12; unfold bd at h9_0; have h9_1 := h_40; unfold bd at h9_1; have h9_2 := bx1_; unfold bd at h9_2; have h9_3 := bx2_; unfold bd at h9_3; have h9_4 := b_15; unfold bd at h9_4; have h9_5 := b_3; unfold bd at h9_5; have h9_6 := b_5; unfold bd at h9_6; have h8_0 := kb_4; unfold bd at h8_0; omega) vx_6 vx_10)) ?_
  refine lv_topl (fun y_47 ey_47 => ?_)
  refine lv_ladd hx hb dX14_argument_99 ?_
  refine lv_topl (fun y_48 ey_48 => ?_)
  refine lv_l2i hx hb dX14_argument_100 rfl ?_
  refine lv_topi (fun y_49 ey_49 => ?_)
  subst hQ
  exact W.iret (v := y_49) hx hb hr (fun t ht hW => ⟨⟨_, _, rfl, trivial, q3_of g hK ht hW⟩, g.2.2.1.F ht⟩) g.2.2.1.2.2 dX14_argument_101
