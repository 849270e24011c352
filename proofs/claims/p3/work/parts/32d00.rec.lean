set_option maxHeartbeats 4000000 in
set_option maxRecDepth 100000 in
theorem r_X14_eval (N : Nat) (ih : RecN N) (l : Launch) (dC : Nat → ClassId) (dI : Nat → Nat → Nat) (L : List Nat) (kd : Nat → Nat) (tys : List (ClassId × FieldType)) (f0 : Nat → va_E) (sz : Nat) (hWT : WT L kd tys f0) (a0_ : Nat) (ma0_ : a0_ ∈ L) (ka0_ : kd a0_ = 14) (x1_ : Int32) (q0_ : Nat) (mq0_ : q0_ ∈ L) (kq0_ : kd q0_ = 12) (V_ : PV) (δ_ : Nat → Nat) (hW : wfP V_ δ_) (w_ : Int32) (bw : bd 0 20 w_) (s_ : Int32) (bs : bd 0 300 s_) (Z_ : Nat → Int32) (O_ : Nat → Int32) (hV : isV f0 q0_ V_) (hR : RA f0 a0_ w_ Z_ O_) (d_ : Nat) (hcl : cAt V_ (O_ (Z_ w_.toNatClampNeg).toNatClampNeg) d_) (h_ : Int) (hE : EV V_ x1_ h_ d_) (hN : 47 * (20 - w_.toInt) + 2 * h_ + 1 ≤ ((N + 1 : Nat) : Int)) (hfx : Fs L kd f0 [(14, 1, a0_, .ref q0_), (14, 35, a0_, .int w_), (14, 34, a0_, .int s_)]) : MetE l yX14_eval (.code yX14_eval cX14_eval 5 (some .int) :: lw_g) ({ frames := (N + 1) + 5, cells := 0, slots := 0, locals := 40 * (N + 1) + 300 }) (va_Pc [.ref a0_, .int x1_] (P3 (dC, dI) L tys f0 sz)) (q3E (dC, dI) L kd tys [(14, 31), (14, 32), (14, 33), (14, 34), (14, 35), (14, 39), (14, 40), (14, 45)] [200, 216, 218, 219, 220, 221] f0 sz (pRi (fun (r : Int32) (f : Nat → va_E) => (RA f a0_ w_ Z_ O_ ∧ ∃ z1_ : Int32, (bd 0 300 z1_ ∧ s_.toInt ≤ z1_.toInt) ∧ Fs L kd f [(14, 35, a0_, .int w_), (14, 34, a0_, .int z1_)]))) (fun (f : Nat → va_E) => True)) 0 0 (pA L sz) := by
  refine MetE.ofW (cc := cX14_eval) (maxL := 5) (ret := (some .int)) (by decide) rfl ?_
  intro p e s m args below meth c s₁ B hml hempty hv
  obtain ⟨rfl, hsz, hP, hK, hD0⟩ := hv
  have hx := B.exec
  have hb := B.bytes
  have hr := B.returns
  have hts := atoms_spec (ws := (.code yX14_eval cX14_eval 5 (some .int) :: lw_g)) B.pre
  have hown : s.vm.findClass RX14 = some m.cls := findClass_of_methodNamed B.named
  have hlocks := B.notSynchronized
  subst hsz
  have g : G3 (dC, dI) L kd tys s f0 [(14, 31), (14, 32), (14, 33), (14, 34), (14, 35), (14, 39), (14, 40), (14, 45)] [200, 216, 218, 219, 220, 221] f0 s.heap [] [(14, 1, a0_, .ref q0_), (14, 35, a0_, .int w_), (14, 34, a0_, .int s_)] := G3.start hP hD0 hWT hfx
  have hl := lv_entry ([.ref a0_, .int x1_]) (n := 5) (Nat.le_of_ble_eq_true rfl)
  rw [lg_entry_eq]
  generalize (lg_sl ([.ref a0_, .int x1_]) ++ List.replicate (5 - (lg_sl ([.ref a0_, .int x1_])).length) Slot.unset).toArray = ls at hl ⊢
  have hl : lv_has ls 5 [(0, .ref a0_), (1, .int x1_)] := hl
  refine W_q (fun Q hQ => ?_)
  have b_1 : bd 0 2499 x1_ := EV.bd hW hE
  refine lv_aload_n hx hb dX14_eval_0 rfl (lv_at hl 0 rfl) ?_
  refine g_getk (C := RX14) (T := TX14) (N := 67) hx hb hts (mc_ inX14) hown hK g rfl 1 (by decide) rfl (hts _ (List.mem_cons_of_mem _ t_2147)) (fun _ h9 => h9) 0 rfl dX14_eval_1 ?_
  refine g_getr (K := 201) (C := RX12) (T := TX12) (N := 60) hx hb hts (mc_ inX12) hown hK g mq0_ kq0_ (by decide) rfl 47 (by decide) rfl (hts _ (List.mem_cons_of_mem _ t_1998)) (fun _ h9 => h9) rfl dX14_eval_4 (fun a_2 ma_2 ka_2 g => ?_)
  refine lv_iload_n hx hb dX14_eval_7 rfl (lv_at hl 1 rfl) ?_
  refine g_iald hx hb hK g ma_2 ka_2 (by decide) rfl (in_bd b_1 (by decide)) dX14_eval_8 (fun x_3 bx_3 cx_3 => ?_)
  have vx_3 : x_3 = V_.i 47 x1_.toNatClampNeg := hV.at g 0 rfl rfl cx_3
  refine lv_istore_n (lv' := [(2, .int x_3), (0, .ref a0_), (1, .int x1_)]) hx hb dX14_eval_9 rfl hl (by decide) rfl (fun ls hl => ?_)
  refine lv_iload_n hx hb dX14_eval_10 rfl (lv_at hl 0 rfl) ?_
  by_cases e_4 : x_3 = 1
  · refine lv_topi (fun z_5 ez_5 => ?_)
    obtain rfl : z_5 = 1 := ez_5.trans e_4
    have kb_1 : bd 1 1 (1 : Int32) := ⟨by decide, by decide⟩
    have b_6 : bd 1 1 x_3 := eqX (eq_f e_4) (bdT x_3) kb_1 (by decide)
    refine lv_tableIn (off := 49) (tgt := 60) hx hb dX14_eval_11 (by decide) (by decide) rfl (by decide) ?_
    refine lv_aload_n hx hb dX14_eval_60 rfl (lv_at hl 1 rfl) ?_
    refine g_getk (C := RX14) (T := TX14) (N := 67) hx hb hts (mc_ inX14) hown hK g rfl 1 (by decide) rfl (hts _ (List.mem_cons_of_mem _ t_2147)) (fun _ h9 => h9) 1 rfl dX14_eval_61 ?_
    refine g_getr (K := 209) (C := RX12) (T := TX12) (N := 60) hx hb hts (mc_ inX12) hown hK g mq0_ kq0_ (by decide) rfl 55 (by decide) rfl (hts _ (List.mem_cons_of_mem _ t_2014)) (fun _ h9 => h9) rfl dX14_eval_64 (fun a_7 ma_7 ka_7 g => ?_)
    refine lv_iload_n hx hb dX14_eval_67 rfl (lv_at hl 2 rfl) ?_
    refine g_laldX hx hb hK g ma_7 ka_7 (by decide) rfl (in_bd b_1 (by decide)) dX14_eval_68 (fun x_8 cx_8 => ?_)
    have vx_8 : x_8 = V_.l 55 x1_.toNatClampNeg := hV.atL g 0 rfl rfl cx_8
    refine lv_l2i hx hb dX14_eval_69 rfl ?_
    refine lv_topi (fun y_9 ey_9 => ?_)
    subst hQ
    exact W.thenQ (W.iret (v := y_9) hx hb hr (fun t ht hW => g_retE g hK ⟨_, rfl, ⟨hR, s_, ⟨bs, (by have h9_0 := bs; unfold bd at h9_0; have h9_1 := bw; unfold bd at h9_1; have h9_2 := b_1; unfold bd at h9_2; have h9_3 := b_6; unfold bd at h9_3; have h8_0 := kb_1; unfold bd at h8_0; omega)⟩, (g.fcts [3, 4] rfl)⟩⟩ ht hW) g.2.2.1.2.2 dX14_eval_70) (fun _ => MQ.toE)
  by_cases e_10 : x_3 = 2
  · refine lv_topi (fun z_11 ez_11 => ?_)
    obtain rfl : z_11 = 2 := ez_11.trans e_10
    have kb_2 : bd 2 2 (2 : Int32) := ⟨by decide, by decide⟩
    have b_12 : bd 2 2 x_3 := eqX (eq_f e_10) (bdT x_3) kb_2 (by decide)
    refine lv_tableIn (off := 60) (tgt := 71) hx hb dX14_eval_11 (by decide) (by decide) rfl (by decide) ?_
    refine lv_aload_n hx hb dX14_eval_71 rfl (lv_at hl 1 rfl) ?_
    refine lv_iload_n hx hb dX14_eval_72 rfl (lv_at hl 2 rfl) ?_
    refine lv_iconst (v := 0) hx hb dX14_eval_73 (by decide) ?_
    have go_ := g
    refine g_callEi (As := [.int x1_, .int 0]) (rest := []) ⟨hx, hb, hml, hown, hts⟩ (ih.2.1 l dC dI L kd tys f0 s.heap.size g.2.2.2.1 a0_ ma0_ ka0_ x1_ (0 : Int32) q0_ mq0_ kq0_ V_ δ_ hW w_ bw s_ bs Z_ O_ hV hR d_ hcl h_ hE (by rw [← vx_3]; have h9 := b_12; unfold bd at h9; omega) (by have hN9 := hN; have bw9 := bw; unfold bd at bw9; have h1_ := EV.hi hW hE; omega) (g.fcts [1, 2, 3] rfl)) (cwV 2 hts (gV_ t_2638 t_2640 t_147 t_198 t_2641) rfl rfl rfl (by decide +kernel) ⟨(show N + 5 + 1 ≤ N + 1 + 5 by omega), (show 8 + (8 + 11) + (40 * N + 300) ≤ 40 * (N + 1) + 300 by omega)⟩) (pre3V g hK ma0_ ka0_ (by decide) (q := (RX14, TX14, 67)) rfl) rfl hl.1 rfl (lv_room (Nat.le_of_ble_eq_true rfl)) dX14_eval_74 ⟨(Nat.le_of_ble_eq_true rfl), (Nat.le_of_ble_eq_true rfl)⟩ g hK (by decide) (by decide) (fx' := [(12, 47, q0_, .ref a_2), (14, 1, a0_, .ref q0_)]) rfl (fun xr_13 fr_13 H locs mxr_13 kxr_13 hp hMr_13 g => ?_) (fun r_13 fr_13 H locs hp hMr_13 g => ?_)
    · have hG_14 := isV.frame hMr_13 go_.2.2.2.1 mq0_ kq0_ (by decide) (by decide) hV
      subst hQ
      exact WX.leaves hempty hlocks (fun t ht hW => g_thrE g hK mxr_13 kxr_13 trivial ht hW) g.2.2.1.2.2
    · obtain ⟨hG_15, x_16, ⟨h_17, rh_17⟩, hF_18⟩ := hp
      have hG_19 := isV.frame hMr_13 go_.2.2.2.1 mq0_ kq0_ (by decide) (by decide) hV
      have g := g.more hF_18
      subst hQ
      exact W.thenQ (W.iret (v := r_13) hx hb hr (fun t ht hW => g_retE g hK ⟨_, rfl, ⟨hG_15, x_16, ⟨h_17, (by have h9_0 := bs; unfold bd at h9_0; have h9_1 := bw; unfold bd at h9_1; have h9_2 := b_1; unfold bd at h9_2; have h9_3 := h_17; unfold bd at h9_3; have h9_4 := b_12; unfold bd at h9_4; have h8_0 := kb_2; unfold bd at h8_0; omega)⟩, (g.fcts [0, 1] rfl)⟩⟩ ht hW) g.2.2.1.2.2 dX14_eval_77) (fun _ => MQ.toE)
  by_cases e_20 : x_3 = 3
  · refine lv_topi (fun z_21 ez_21 => ?_)
    obtain rfl : z_21 = 3 := ez_21.trans e_20
    have kb_3 : bd 3 3 (3 : Int32) := ⟨by decide, by decide⟩
    have b_22 : bd 3 3 x_3 := eqX (eq_f e_20) (bdT x_3) kb_3 (by decide)
    refine lv_tableIn (off := 67) (tgt := 78) hx hb dX14_eval_11 (by decide) (by decide) rfl (by decide) ?_
    refine lv_aload_n hx hb dX14_eval_78 rfl (lv_at hl 1 rfl) ?_
    refine lv_iload_n hx hb dX14_eval_79 rfl (lv_at hl 2 rfl) ?_
    refine lv_iconst (v := 1) hx hb dX14_eval_80 (by decide) ?_
    have go_ := g
    refine g_callEi (As := [.int x1_, .int 1]) (rest := []) ⟨hx, hb, hml, hown, hts⟩ (ih.2.2.1 l dC dI L kd tys f0 s.heap.size g.2.2.2.1 a0_ ma0_ ka0_ x1_ (1 : Int32) q0_ mq0_ kq0_ V_ δ_ hW w_ bw s_ bs Z_ O_ hV hR d_ hcl h_ hE (by unfold isC; rw [← vx_3]; have h9 := b_22; unfold bd at h9; omega) (by have hN9 := hN; have bw9 := bw; unfold bd at bw9; omega) (g.fcts [1, 2, 3] rfl)) (cwV 2 hts (gV_ t_2655 t_2657 t_151 t_198 t_2658) rfl rfl rfl (by decide +kernel) ⟨(show N + 5 + 1 ≤ N + 1 + 5 by omega), (show 8 + (10 + 11) + (40 * N + 300) ≤ 40 * (N + 1) + 300 by omega)⟩) (pre3V g hK ma0_ ka0_ (by decide) (q := (RX14, TX14, 67)) rfl) rfl hl.1 rfl (lv_room (Nat.le_of_ble_eq_true rfl)) dX14_eval_81 ⟨(Nat.le_of_ble_eq_true rfl), (Nat.le_of_ble_eq_true rfl)⟩ g hK (by decide) (by decide) (fx' := [(12, 47, q0_, .ref a_2), (14, 1, a0_, .ref q0_)]) rfl (fun xr_23 fr_23 H locs mxr_23 kxr_23 hp hMr_23 g => ?_) (fun r_23 fr_23 H locs hp hMr_23 g => ?_)
    · have hG_24 := isV.frame hMr_23 go_.2.2.2.1 mq0_ kq0_ (by decide) (by decide) hV
      subst hQ
      exact WX.leaves hempty hlocks (fun t ht hW => g_thrE g hK mxr_23 kxr_23 trivial ht hW) g.2.2.1.2.2
    · obtain ⟨hG_25, x_26, ⟨h_27, rh_27⟩, hF_28⟩ := hp
      have hG_29 := isV.frame hMr_23 go_.2.2.2.1 mq0_ kq0_ (by decide) (by decide) hV
      have g := g.more hF_28
      subst hQ
      exact W.thenQ (W.iret (v := r_23) hx hb hr (fun t ht hW => g_retE g hK ⟨_, rfl, ⟨hG_25, x_26, ⟨h_27, (by have h9_0 := bs; unfold bd at h9_0; have h9_1 := bw; unfold bd at h9_1; have h9_2 := b_1; unfold bd at h9_2; have h9_3 := h_27; unfold bd at h9_3; have h9_4 := b_22; unfold bd at h9_4; have h8_0 := kb_3; unfold bd at h8_0; omega)⟩, (g.fcts [0, 1] rfl)⟩⟩ ht hW) g.2.2.1.2.2 dX14_eval_84) (fun _ => MQ.toE)
  by_cases e_30 : x_3 = 4
  · refine lv_topi (fun z_31 ez_31 => ?_)
    obtain rfl : z_31 = 4 := ez_31.trans e_30
    have kb_4 : bd 4 4 (4 : Int32) := ⟨by decide, by decide⟩
    have b_32 : bd 4 4 x_3 := eqX (eq_f e_30) (bdT x_3) kb_4 (by decide)
    refine lv_tableIn (off := 74) (tgt := 85) hx hb dX14_eval_11 (by decide) (by decide) rfl (by decide) ?_
    refine lv_aload_n hx hb dX14_eval_85 rfl (lv_at hl 1 rfl) ?_
    refine lv_aload_n hx hb dX14_eval_86 rfl (lv_at hl 1 rfl) ?_
    refine g_getk (C := RX14) (T := TX14) (N := 67) hx hb hts (mc_ inX14) hown hK g rfl 1 (by decide) rfl (hts _ (List.mem_cons_of_mem _ t_2147)) (fun _ h9 => h9) 1 rfl dX14_eval_87 ?_
    refine g_getr (K := 202) (C := RX12) (T := TX12) (N := 60) hx hb hts (mc_ inX12) hown hK g mq0_ kq0_ (by decide) rfl 48 (by decide) rfl (hts _ (List.mem_cons_of_mem _ t_2000)) (fun _ h9 => h9) rfl dX14_eval_90 (fun a_33 ma_33 ka_33 g => ?_)
    refine lv_iload_n hx hb dX14_eval_93 rfl (lv_at hl 2 rfl) ?_
    refine g_iald hx hb hK g ma_33 ka_33 (by decide) rfl (in_bd b_1 (by decide)) dX14_eval_94 (fun x_34 bx_34 cx_34 => ?_)
    have vx_34 : x_34 = V_.i 48 x1_.toNatClampNeg := hV.at g 0 rfl rfl cx_34
    refine lv_iconst (v := 1) hx hb dX14_eval_95 (by decide) ?_
    have go_ := g
    refine g_callEi (As := [.int x_34, .int 1]) (rest := []) ⟨hx, hb, hml, hown, hts⟩ (ih.2.1 l dC dI L kd tys f0 s.heap.size g.2.2.2.1 a0_ ma0_ ka0_ x_34 (1 : Int32) q0_ mq0_ kq0_ V_ δ_ hW w_ bw s_ bs Z_ O_ hV hR d_ hcl (h_ - 1) (ev_x hW hE vx_3 (by have h9 := b_32; unfold bd at h9; omega) vx_34) (ev_o hW hE vx_3 (by have h9 := b_32; unfold bd at h9; omega) vx_34) (by have hN9 := hN; have bw9 := bw; unfold bd at bw9; have h1_ := EV.hi hW hE; omega) (g.fcts [2, 3, 4] rfl)) (cwV 2 hts (gV_ t_2638 t_2640 t_147 t_198 t_2641) rfl rfl rfl (by decide +kernel) ⟨(show N + 5 + 1 ≤ N + 1 + 5 by omega), (show 8 + (8 + 11) + (40 * N + 300) ≤ 40 * (N + 1) + 300 by omega)⟩) (pre3V g hK ma0_ ka0_ (by decide) (q := (RX14, TX14, 67)) rfl) rfl hl.1 rfl (lv_room (Nat.le_of_ble_eq_true rfl)) dX14_eval_96 ⟨(Nat.le_of_ble_eq_true rfl), (Nat.le_of_ble_eq_true rfl)⟩ g hK (by decide) (by decide) (fx' := [(12, 48, q0_, .ref a_33), (12, 47, q0_, .ref a_2), (14, 1, a0_, .ref q0_)]) rfl (fun xr_35 fr_35 H locs mxr_35 kxr_35 hp hMr_35 g => ?_) (fun r_35 fr_35 H locs hp hMr_35 g => ?_)
    · have hG_36 := isV.frame hMr_35 go_.2.2.2.1 mq0_ kq0_ (by decide) (by decide) hV
      subst hQ
      exact WX.leaves hempty hlocks (fun t ht hW => g_thrE g hK mxr_35 kxr_35 trivial ht hW) g.2.2.1.2.2
    · obtain ⟨hG_37, x_38, ⟨h_39, rh_39⟩, hF_40⟩ := hp
      have hG_41 := isV.frame hMr_35 go_.2.2.2.1 mq0_ kq0_ (by decide) (by decide) hV
      have g := g.more hF_40
      subst hQ
      exact W.thenQ (W.iret (v := r_35) hx hb hr (fun t ht hW => g_retE g hK ⟨_, rfl, ⟨hG_37, x_38, ⟨h_39, (by have h9_0 := bs; unfold bd at h9_0; have h9_1 := bw; unfold bd at h9_1; have h9_2 := b_1; unfold bd at h9_2; have h9_3 := b_32; unfold bd at h9_3; have h9_4 := h_39; unfold bd at h9_4; have h8_0 := kb_4; unfold bd at h8_0; omega)⟩, (g.fcts [0, 1] rfl)⟩⟩ ht hW) g.2.2.1.2.2 dX14_eval_99) (fun _ => MQ.toE)
  by_cases e_42 : x_3 = 5
  · refine lv_topi (fun z_43 ez_43 => ?_)
    obtain rfl : z_43 = 5 := ez_43.trans e_42
    have kb_5 : bd 5 5 (5 : Int32) := ⟨by decide, by decide⟩
    have b_44 : bd 5 5 x_3 := eqX (eq_f e_42) (bdT x_3) kb_5 (by decide)
    refine lv_tableIn (off := 89) (tgt := 100) hx hb dX14_eval_11 (by decide) (by decide) rfl (by decide) ?_
    refine lv_aload_n hx hb dX14_eval_100 rfl (lv_at hl 1 rfl) ?_
    refine g_geti (C := RX14) (T := TX14) (N := 67) hx hb hts (mc_ inX14) hown hK g ma0_ ka0_ (by decide) rfl 38 (by decide) rfl (hts _ (List.mem_cons_of_mem _ t_2184)) (fun _ h9 => h9) rfl dX14_eval_101 (fun x_45 bx_45 g => ?_)
    subst hQ
    exact W.thenQ (W.iret (v := x_45) hx hb hr (fun t ht hW => g_retE g hK ⟨_, rfl, ⟨hR, s_, ⟨bs, (by have h9_0 := bs; unfold bd at h9_0; have h9_1 := bw; unfold bd at h9_1; have h9_2 := b_1; unfold bd at h9_2; have h9_3 := b_44; unfold bd at h9_3; have h8_0 := kb_5; unfold bd at h8_0; omega)⟩, (g.fcts [3, 4] rfl)⟩⟩ ht hW) g.2.2.1.2.2 dX14_eval_104) (fun _ => MQ.toE)
  by_cases e_46 : x_3 = 6
  · refine lv_topi (fun z_47 ez_47 => ?_)
    obtain rfl : z_47 = 6 := ez_47.trans e_46
    have kb_6 : bd 6 6 (6 : Int32) := ⟨by decide, by decide⟩
    have b_48 : bd 6 6 x_3 := eqX (eq_f e_46) (bdT x_3) kb_6 (by decide)
    refine lv_tableIn (off := 94) (tgt := 105) hx hb dX14_eval_11 (by decide) (by decide) rfl (by decide) ?_
    refine lv_aload_n hx hb dX14_eval_105 rfl (lv_at hl 1 rfl) ?_
    refine g_getk (C := RX14) (T := TX14) (N := 67) hx hb hts (mc_ inX14) hown hK g rfl 1 (by decide) rfl (hts _ (List.mem_cons_of_mem _ t_2147)) (fun _ h9 => h9) 1 rfl dX14_eval_106 ?_
    refine g_getr (K := 164) (C := RX12) (T := TX12) (N := 60) hx hb hts (mc_ inX12) hown hK g mq0_ kq0_ (by decide) rfl 8 (by decide) rfl (hts _ (List.mem_cons_of_mem _ t_1922)) (fun _ h9 => h9) rfl dX14_eval_109 (fun a_49 ma_49 ka_49 g => ?_)
    refine lv_bipush (v := 10) hx hb dX14_eval_112 (by decide) ?_
    refine lv_aload_n hx hb dX14_eval_114 rfl (lv_at hl 1 rfl) ?_
    have go_ := g
    refine g_calli (va_runV (As := []) (rest := [.int 10, .ref a_49]) ⟨hx, hb, hml, hown, hts⟩ (r_X14_classHereN l dC dI L kd tys f0 s.heap.size g.2.2.2.1 a0_ ma0_ ka0_ w_ bw Z_ O_ hR (g.fcts [3] rfl)) (cwV 0 hts (gV_ t_2642 t_2644 t_148 t_198 t_2645) rfl rfl rfl (by decide +kernel) ⟨(show 0 + 1 ≤ N + 1 + 5 by omega), (show 8 + (1 + 11) + 0 ≤ 40 * (N + 1) + 300 by omega)⟩) (pre3V g hK ma0_ ka0_ (by decide) (q := (RX14, TX14, 67)) rfl) rfl rfl hl.1 rfl (lv_room (Nat.le_of_ble_eq_true rfl)) dX14_eval_115 ⟨(Nat.le_of_ble_eq_true rfl), (Nat.le_of_ble_eq_true rfl)⟩) g hK (by decide) (by decide) (fx' := [(12, 8, q0_, .ref a_49), (12, 47, q0_, .ref a_2), (14, 1, a0_, .ref q0_), (14, 35, a0_, .int w_), (14, 34, a0_, .int s_)]) rfl (fun r_50 fr_50 H locs hp hMr_50 g => ?_)
    obtain ⟨hx_51, h_52, -⟩ := hp
    have hG_53 := isV.frame hMr_50 go_.2.2.2.1 mq0_ kq0_ (by decide) (by decide) hV
    have hG_54 := RA.frame hMr_50 go_.2.2.2.1 ma0_ ka0_ (by decide) (by decide) hR
    have hcA_55 : cAt V_ r_50 d_ := by rw [hx_51]; exact hcl
    have b_56 : bd 0 7 r_50 := ⟨hcA_55.1, h_52.2⟩
    refine lv_imul hx hb dX14_eval_118 ?_
    refine lv_topi (fun y_57 ey_57 => ?_)
    have ty_57 := cmul_bd ey_57 (c := 10) (by decide) b_56 (by decide)
    have b_58 : bd 0 70 y_57 := mulc_rg ty_57 b_56 (by decide)
    refine lv_aload_n hx hb dX14_eval_119 rfl (lv_at hl 1 rfl) ?_
    refine g_getk (C := RX14) (T := TX14) (N := 67) hx hb hts (mc_ inX14) hown hK g rfl 1 (by decide) rfl (hts _ (List.mem_cons_of_mem _ t_2147)) (fun _ h9 => h9) 2 rfl dX14_eval_120 ?_
    refine g_getr (K := 204) (C := RX12) (T := TX12) (N := 60) hx hb hts (mc_ inX12) hown hK g mq0_ kq0_ (by decide) rfl 50 (by decide) rfl (hts _ (List.mem_cons_of_mem _ t_2004)) (fun _ h9 => h9) rfl dX14_eval_123 (fun a_59 ma_59 ka_59 g => ?_)
    refine lv_iload_n hx hb dX14_eval_126 rfl (lv_at hl 2 rfl) ?_
    refine g_iald hx hb hK g ma_59 ka_59 (by decide) rfl (in_bd b_1 (by decide)) dX14_eval_127 (fun x_60 bx_60 cx_60 => ?_)
    have vx_60 : x_60 = V_.i 50 x1_.toNatClampNeg := hG_53.at g 0 rfl rfl cx_60
    have b_61 : bd 0 9 x_60 := ev_s hW hE vx_3 (by have h9 := b_48; unfold bd at h9; omega) vx_60
    refine lv_iadd hx hb dX14_eval_128 ?_
    refine lv_topi (fun y_62 ey_62 => ?_)
    have ty_62 := add_bd ey_62 b_58 b_61 (by decide)
    have b_63 : bd 0 79 y_62 := add_rg ty_62 b_58 b_61 (by decide)
    refine g_iald hx hb hK g ma_49 ka_49 (by decide) rfl (in_bd b_63 (by decide)) dX14_eval_129 (fun x_64 bx_64 cx_64 => ?_)
    have vx_64 : x_64 = V_.i 8 y_62.toNatClampNeg := hG_53.at g 1 rfl rfl cx_64
    subst hQ
    exact W.thenQ (W.iret (v := x_64) hx hb hr (fun t ht hW => g_retE g hK ⟨_, rfl, ⟨hG_54, s_, ⟨bs, (by have h9_0 := b_56; unfold bd at h9_0; have h9_1 := bs; unfold bd at h9_1; have h9_2 := bw; unfold bd at h9_2; have h9_3 := b_1; unfold bd at h9_3; have h9_4 := b_48; unfold bd at h9_4; have h9_5 := b_61; unfold bd at h9_5; have h9_6 := bx_64; unfold bd at h9_6; have h9_7 := b_58; unfold bd at h9_7; have h9_8 := b_63; unfold bd at h9_8; have h8_0 := kb_6; unfold bd at h8_0; omega)⟩, (g.fcts [4, 5] rfl)⟩⟩ ht hW) g.2.2.1.2.2 dX14_eval_130) (fun _ => MQ.toE)
  by_cases e_65 : x_3 = 7
  · refine lv_topi (fun z_66 ez_66 => ?_)
    obtain rfl : z_66 = 7 := ez_66.trans e_65
    have kb_7 : bd 7 7 (7 : Int32) := ⟨by decide, by decide⟩
    have b_67 : bd 7 7 x_3 := eqX (eq_f e_65) (bdT x_3) kb_7 (by decide)
    refine lv_tableIn (off := 120) (tgt := 131) hx hb dX14_eval_11 (by decide) (by decide) rfl (by decide) ?_
    refine lv_aload_n hx hb dX14_eval_131 rfl (lv_at hl 1 rfl) ?_
    refine lv_aload_n hx hb dX14_eval_132 rfl (lv_at hl 1 rfl) ?_
    refine g_getk (C := RX14) (T := TX14) (N := 67) hx hb hts (mc_ inX14) hown hK g rfl 1 (by decide) rfl (hts _ (List.mem_cons_of_mem _ t_2147)) (fun _ h9 => h9) 1 rfl dX14_eval_133 ?_
    refine g_getr (K := 202) (C := RX12) (T := TX12) (N := 60) hx hb hts (mc_ inX12) hown hK g mq0_ kq0_ (by decide) rfl 48 (by decide) rfl (hts _ (List.mem_cons_of_mem _ t_2000)) (fun _ h9 => h9) rfl dX14_eval_136 (fun a_68 ma_68 ka_68 g => ?_)
    refine lv_iload_n hx hb dX14_eval_139 rfl (lv_at hl 2 rfl) ?_
    refine g_iald hx hb hK g ma_68 ka_68 (by decide) rfl (in_bd b_1 (by decide)) dX14_eval_140 (fun x_69 bx_69 cx_69 => ?_)
    have vx_69 : x_69 = V_.i 48 x1_.toNatClampNeg := hV.at g 0 rfl rfl cx_69
    have go_ := g
    refine g_callEi (As := [.int x_69]) (rest := []) ⟨hx, hb, hml, hown, hts⟩ (ih.1 l dC dI L kd tys f0 s.heap.size g.2.2.2.1 a0_ ma0_ ka0_ x_69 q0_ mq0_ kq0_ V_ δ_ hW w_ bw s_ bs Z_ O_ hV hR d_ hcl (h_ - 1) (ev_x hW hE vx_3 (by have h9 := b_67; unfold bd at h9; omega) vx_69) (by have hN9 := hN; have bw9 := bw; unfold bd at bw9; have h1_ := EV.hi hW hE; omega) (g.fcts [2, 3, 4] rfl)) (cwV 1 hts (gV_ t_2634 t_2636 t_146 t_198 t_2637) rfl rfl rfl (by decide +kernel) ⟨(show N + 5 + 1 ≤ N + 1 + 5 by omega), (show 8 + (5 + 11) + (40 * N + 300) ≤ 40 * (N + 1) + 300 by omega)⟩) (pre3V g hK ma0_ ka0_ (by decide) (q := (RX14, TX14, 67)) rfl) rfl hl.1 rfl (lv_room (Nat.le_of_ble_eq_true rfl)) dX14_eval_141 ⟨(Nat.le_of_ble_eq_true rfl), (Nat.le_of_ble_eq_true rfl)⟩ g hK (by decide) (by decide) (fx' := [(12, 48, q0_, .ref a_68), (12, 47, q0_, .ref a_2), (14, 1, a0_, .ref q0_)]) rfl (fun xr_70 fr_70 H locs mxr_70 kxr_70 hp hMr_70 g => ?_) (fun r_70 fr_70 H locs hp hMr_70 g => ?_)
    · have hG_71 := isV.frame hMr_70 go_.2.2.2.1 mq0_ kq0_ (by decide) (by decide) hV
      subst hQ
      exact WX.leaves hempty hlocks (fun t ht hW => g_thrE g hK mxr_70 kxr_70 trivial ht hW) g.2.2.1.2.2
    · obtain ⟨hG_72, x_73, ⟨h_74, rh_74⟩, hF_75⟩ := hp
      have hG_76 := isV.frame hMr_70 go_.2.2.2.1 mq0_ kq0_ (by decide) (by decide) hV
      have g := g.more hF_75
      refine lv_ineg hx hb dX14_eval_144 ?_
      refine lv_topi (fun y_77 ey_77 => ?_)
      subst hQ
      exact W.thenQ (W.iret (v := y_77) hx hb hr (fun t ht hW => g_retE g hK ⟨_, rfl, ⟨hG_72, x_73, ⟨h_74, (by have h9_0 := bs; unfold bd at h9_0; have h9_1 := bw; unfold bd at h9_1; have h9_2 := b_1; unfold bd at h9_2; have h9_3 := b_67; unfold bd at h9_3; have h9_4 := h_74; unfold bd at h9_4; have h8_0 := kb_7; unfold bd at h8_0; omega)⟩, (g.fcts [0, 1] rfl)⟩⟩ ht hW) g.2.2.1.2.2 dX14_eval_145) (fun _ => MQ.toE)
  by_cases e_78 : x_3 = 8
  · refine lv_topi (fun z_79 ez_79 => ?_)
    obtain rfl : z_79 = 8 := ez_79.trans e_78
    have kb_8 : bd 8 8 (8 : Int32) := ⟨by decide, by decide⟩
    have b_80 : bd 8 8 x_3 := eqX (eq_f e_78) (bdT x_3) kb_8 (by decide)
    refine lv_tableIn (off := 135) (tgt := 146) hx hb dX14_eval_11 (by decide) (by decide) rfl (by decide) ?_
    refine lv_aload_n hx hb dX14_eval_146 rfl (lv_at hl 1 rfl) ?_
    refine lv_aload_n hx hb dX14_eval_147 rfl (lv_at hl 1 rfl) ?_
    refine g_getk (C := RX14) (T := TX14) (N := 67) hx hb hts (mc_ inX14) hown hK g rfl 1 (by decide) rfl (hts _ (List.mem_cons_of_mem _ t_2147)) (fun _ h9 => h9) 1 rfl dX14_eval_148 ?_
    refine g_getr (K := 202) (C := RX12) (T := TX12) (N := 60) hx hb hts (mc_ inX12) hown hK g mq0_ kq0_ (by decide) rfl 48 (by decide) rfl (hts _ (List.mem_cons_of_mem _ t_2000)) (fun _ h9 => h9) rfl dX14_eval_151 (fun a_81 ma_81 ka_81 g => ?_)
    refine lv_iload_n hx hb dX14_eval_154 rfl (lv_at hl 2 rfl) ?_
    refine g_iald hx hb hK g ma_81 ka_81 (by decide) rfl (in_bd b_1 (by decide)) dX14_eval_155 (fun x_82 bx_82 cx_82 => ?_)
    have vx_82 : x_82 = V_.i 48 x1_.toNatClampNeg := hV.at g 0 rfl rfl cx_82
    have go_ := g
    refine g_callEi (As := [.int x_82]) (rest := []) ⟨hx, hb, hml, hown, hts⟩ (ih.1 l dC dI L kd tys f0 s.heap.size g.2.2.2.1 a0_ ma0_ ka0_ x_82 q0_ mq0_ kq0_ V_ δ_ hW w_ bw s_ bs Z_ O_ hV hR d_ hcl (h_ - 1) (ev_x hW hE vx_3 (by have h9 := b_80; unfold bd at h9; omega) vx_82) (by have hN9 := hN; have bw9 := bw; unfold bd at bw9; have h1_ := EV.hi hW hE; omega) (g.fcts [2, 3, 4] rfl)) (cwV 1 hts (gV_ t_2634 t_2636 t_146 t_198 t_2637) rfl rfl rfl (by decide +kernel) ⟨(show N + 5 + 1 ≤ N + 1 + 5 by omega), (show 8 + (5 + 11) + (40 * N + 300) ≤ 40 * (N + 1) + 300 by omega)⟩) (pre3V g hK ma0_ ka0_ (by decide) (q := (RX14, TX14, 67)) rfl) rfl hl.1 rfl (lv_room (Nat.le_of_ble_eq_true rfl)) dX14_eval_156 ⟨(Nat.le_of_ble_eq_true rfl), (Nat.le_of_ble_eq_true rfl)⟩ g hK (by decide) (by decide) (fx' := [(12, 48, q0_, .ref a_81), (12, 47, q0_, .ref a_2), (14, 1, a0_, .ref q0_)]) rfl (fun xr_83 fr_83 H locs mxr_83 kxr_83 hp hMr_83 g => ?_) (fun r_83 fr_83 H locs hp hMr_83 g => ?_)
    · have hG_84 := isV.frame hMr_83 go_.2.2.2.1 mq0_ kq0_ (by decide) (by decide) hV
      subst hQ
      exact WX.leaves hempty hlocks (fun t ht hW => g_thrE g hK mxr_83 kxr_83 trivial ht hW) g.2.2.1.2.2
    · obtain ⟨hG_85, x_86, ⟨h_87, rh_87⟩, hF_88⟩ := hp
      have hG_89 := isV.frame hMr_83 go_.2.2.2.1 mq0_ kq0_ (by decide) (by decide) hV
      have g := g.more hF_88
      have kb_0 : bd 0 0 (0 : Int32) := ⟨by decide, by decide⟩
      refine lv_if_ne (tgt := 166) hx hb dX14_eval_159 (by decide) (fun c_90 => ?_) (fun c_90 => ?_)
      · have fc_90 := neq_f c_90
        refine lv_iconst (v := 0) hx hb dX14_eval_166 (by decide) ?_
        subst hQ
        exact W.thenQ (W.iret (v := 0) hx hb hr (fun t ht hW => g_retE g hK ⟨_, rfl, ⟨hG_85, x_86, ⟨h_87, (by have h9_0 := bs; unfold bd at h9_0; have h9_1 := bw; unfold bd at h9_1; have h9_2 := b_1; unfold bd at h9_2; have h9_3 := b_80; unfold bd at h9_3; have h9_4 := h_87; unfold bd at h9_4; have h8_0 := kb_0; unfold bd at h8_0; have h8_1 := kb_8; unfold bd at h8_1; omega)⟩, (g.fcts [0, 1] rfl)⟩⟩ ht hW) g.2.2.1.2.2 dX14_eval_167) (fun _ => MQ.toE)
      · have fc_90 := eq_f c_90
        have b_91 : bd 0 0 r_83 := eqX fc_90 (bdT r_83) kb_0 (by decide)
        refine lv_iconst (v := 1) hx hb dX14_eval_162 (by decide) ?_
        refine lv_goto (tgt := 167) hx hb dX14_eval_163 (by decide) ?_
        subst hQ
        exact W.thenQ (W.iret (v := 1) hx hb hr (fun t ht hW => g_retE g hK ⟨_, rfl, ⟨hG_85, x_86, ⟨h_87, (by have h9_0 := b_91; unfold bd at h9_0; have h9_1 := bs; unfold bd at h9_1; have h9_2 := bw; unfold bd at h9_2; have h9_3 := b_1; unfold bd at h9_3; have h9_4 := b_80; unfold bd at h9_4; have h9_5 := h_87; unfold bd at h9_5; have h8_0 := kb_0; unfold bd at h8_0; have h8_1 := kb_8; unfold bd at h8_1; omega)⟩, (g.fcts [0, 1] rfl)⟩⟩ ht hW) g.2.2.1.2.2 dX14_eval_167) (fun _ => MQ.toE)
  by_cases e_92 : x_3 = 9
  · refine lv_topi (fun z_93 ez_93 => ?_)
    obtain rfl : z_93 = 9 := ez_93.trans e_92
    have kb_9 : bd 9 9 (9 : Int32) := ⟨by decide, by decide⟩
    have b_94 : bd 9 9 x_3 := eqX (eq_f e_92) (bdT x_3) kb_9 (by decide)
    refine lv_tableIn (off := 67) (tgt := 78) hx hb dX14_eval_11 (by decide) (by decide) rfl (by decide) ?_
    refine lv_aload_n hx hb dX14_eval_78 rfl (lv_at hl 1 rfl) ?_
    refine lv_iload_n hx hb dX14_eval_79 rfl (lv_at hl 2 rfl) ?_
    refine lv_iconst (v := 1) hx hb dX14_eval_80 (by decide) ?_
    have go_ := g
    refine g_callEi (As := [.int x1_, .int 1]) (rest := []) ⟨hx, hb, hml, hown, hts⟩ (ih.2.2.1 l dC dI L kd tys f0 s.heap.size g.2.2.2.1 a0_ ma0_ ka0_ x1_ (1 : Int32) q0_ mq0_ kq0_ V_ δ_ hW w_ bw s_ bs Z_ O_ hV hR d_ hcl h_ hE (by unfold isC; rw [← vx_3]; have h9 := b_94; unfold bd at h9; omega) (by have hN9 := hN; have bw9 := bw; unfold bd at bw9; omega) (g.fcts [1, 2, 3] rfl)) (cwV 2 hts (gV_ t_2655 t_2657 t_151 t_198 t_2658) rfl rfl rfl (by decide +kernel) ⟨(show N + 5 + 1 ≤ N + 1 + 5 by omega), (show 8 + (10 + 11) + (40 * N + 300) ≤ 40 * (N + 1) + 300 by omega)⟩) (pre3V g hK ma0_ ka0_ (by decide) (q := (RX14, TX14, 67)) rfl) rfl hl.1 rfl (lv_room (Nat.le_of_ble_eq_true rfl)) dX14_eval_81 ⟨(Nat.le_of_ble_eq_true rfl), (Nat.le_of_ble_eq_true rfl)⟩ g hK (by decide) (by decide) (fx' := [(12, 47, q0_, .ref a_2), (14, 1, a0_, .ref q0_)]) rfl (fun xr_95 fr_95 H locs mxr_95 kxr_95 hp hMr_95 g => ?_) (fun r_95 fr_95 H locs hp hMr_95 g => ?_)
    · have hG_96 := isV.frame hMr_95 go_.2.2.2.1 mq0_ kq0_ (by decide) (by decide) hV
      subst hQ
      exact WX.leaves hempty hlocks (fun t ht hW => g_thrE g hK mxr_95 kxr_95 trivial ht hW) g.2.2.1.2.2
    · obtain ⟨hG_97, x_98, ⟨h_99, rh_99⟩, hF_100⟩ := hp
      have hG_101 := isV.frame hMr_95 go_.2.2.2.1 mq0_ kq0_ (by decide) (by decide) hV
      have g := g.more hF_100
      subst hQ
      exact W.thenQ (W.iret (v := r_95) hx hb hr (fun t ht hW => g_retE g hK ⟨_, rfl, ⟨hG_97, x_98, ⟨h_99, (by have h9_0 := bs; unfold bd at h9_0; have h9_1 := bw; unfold bd at h9_1; have h9_2 := b_1; unfold bd at h9_2; have h9_3 := b_94; unfold bd at h9_3; have h9_4 := h_99; unfold bd at h9_4; have h8_0 := kb_9; unfold bd at h8_0; omega)⟩, (g.fcts [0, 1] rfl)⟩⟩ ht hW) g.2.2.1.2.2 dX14_eval_84) (fun _ => MQ.toE)
  refine lv_tableOut (tgt := 168) hx hb dX14_eval_11 (by have a0 : x_3.toInt ≠ 1 := fun h => e_4 (Int32.toInt_inj.mp (h.trans (by decide))); have a1 : x_3.toInt ≠ 2 := fun h => e_10 (Int32.toInt_inj.mp (h.trans (by decide))); have a2 : x_3.toInt ≠ 3 := fun h => e_20 (Int32.toInt_inj.mp (h.trans (by decide))); have a3 : x_3.toInt ≠ 4 := fun h => e_30 (Int32.toInt_inj.mp (h.trans (by decide))); have a4 : x_3.toInt ≠ 5 := fun h => e_42 (Int32.toInt_inj.mp (h.trans (by decide))); have a5 : x_3.toInt ≠ 6 := fun h => e_46 (Int32.toInt_inj.mp (h.trans (by decide))); have a6 : x_3.toInt ≠ 7 := fun h => e_65 (Int32.toInt_inj.mp (h.trans (by decide))); have a7 : x_3.toInt ≠ 8 := fun h => e_78 (Int32.toInt_inj.mp (h.trans (by decide))); have a8 : x_3.toInt ≠ 9 := fun h => e_92 (Int32.toInt_inj.mp (h.trans (by decide))); omega) (by decide) ?_
  refine lv_aload_n hx hb dX14_eval_168 rfl (lv_at hl 1 rfl) ?_
  refine lv_aload_n hx hb dX14_eval_169 rfl (lv_at hl 1 rfl) ?_
  refine g_getk (C := RX14) (T := TX14) (N := 67) hx hb hts (mc_ inX14) hown hK g rfl 1 (by decide) rfl (hts _ (List.mem_cons_of_mem _ t_2147)) (fun _ h9 => h9) 1 rfl dX14_eval_170 ?_
  refine g_getr (K := 202) (C := RX12) (T := TX12) (N := 60) hx hb hts (mc_ inX12) hown hK g mq0_ kq0_ (by decide) rfl 48 (by decide) rfl (hts _ (List.mem_cons_of_mem _ t_2000)) (fun _ h9 => h9) rfl dX14_eval_173 (fun a_102 ma_102 ka_102 g => ?_)
  refine lv_iload_n hx hb dX14_eval_176 rfl (lv_at hl 2 rfl) ?_
  refine g_iald hx hb hK g ma_102 ka_102 (by decide) rfl (in_bd b_1 (by decide)) dX14_eval_177 (fun x_103 bx_103 cx_103 => ?_)
  have vx_103 : x_103 = V_.i 48 x1_.toNatClampNeg := hV.at g 0 rfl rfl cx_103
  have go_ := g
  refine g_callEi (As := [.int x_103]) (rest := []) ⟨hx, hb, hml, hown, hts⟩ (ih.1 l dC dI L kd tys f0 s.heap.size g.2.2.2.1 a0_ ma0_ ka0_ x_103 q0_ mq0_ kq0_ V_ δ_ hW w_ bw s_ bs Z_ O_ hV hR d_ hcl (h_ - 1) (ev_x hW hE vx_3 (by have a0 : x_3.toInt ≠ 1 := fun h => e_4 (Int32.toInt_inj.mp (h.trans (by decide))); have a1 : x_3.toInt ≠ 2 := fun h => e_10 (Int32.toInt_inj.mp (h.trans (by decide))); have a2 : x_3.toInt ≠ 3 := fun h => e_20 (Int32.toInt_inj.mp (h.trans (by decide))); have a3 : x_3.toInt ≠ 4 := fun h => e_30 (Int32.toInt_inj.mp (h.trans (by decide))); have a4 : x_3.toInt ≠ 5 := fun h => e_42 (Int32.toInt_inj.mp (h.trans (by decide))); have a5 : x_3.toInt ≠ 6 := fun h => e_46 (Int32.toInt_inj.mp (h.trans (by decide))); have a6 : x_3.toInt ≠ 7 := fun h => e_65 (Int32.toInt_inj.mp (h.trans (by decide))); have a7 : x_3.toInt ≠ 8 := fun h => e_78 (Int32.toInt_inj.mp (h.trans (by decide))); have a8 : x_3.toInt ≠ 9 := fun h => e_92 (Int32.toInt_inj.mp (h.trans (by decide)));  omega) vx_103) (by have hN9 := hN; have bw9 := bw; unfold bd at bw9; have h1_ := EV.hi hW hE; omega) (g.fcts [2, 3, 4] rfl)) (cwV 1 hts (gV_ t_2634 t_2636 t_146 t_198 t_2637) rfl rfl rfl (by decide +kernel) ⟨(show N + 5 + 1 ≤ N + 1 + 5 by omega), (show 8 + (5 + 11) + (40 * N + 300) ≤ 40 * (N + 1) + 300 by omega)⟩) (pre3V g hK ma0_ ka0_ (by decide) (q := (RX14, TX14, 67)) rfl) rfl hl.1 rfl (lv_room (Nat.le_of_ble_eq_true rfl)) dX14_eval_178 ⟨(Nat.le_of_ble_eq_true rfl), (Nat.le_of_ble_eq_true rfl)⟩ g hK (by decide) (by decide) (fx' := [(12, 48, q0_, .ref a_102), (12, 47, q0_, .ref a_2), (14, 1, a0_, .ref q0_)]) rfl (fun xr_104 fr_104 H locs mxr_104 kxr_104 hp hMr_104 g => ?_) (fun r_104 fr_104 H locs hp hMr_104 g => ?_)
  · have hG_105 := isV.frame hMr_104 go_.2.2.2.1 mq0_ kq0_ (by decide) (by decide) hV
    subst hQ
    exact WX.leaves hempty hlocks (fun t ht hW => g_thrE g hK mxr_104 kxr_104 trivial ht hW) g.2.2.1.2.2
  · obtain ⟨hG_106, x_107, ⟨h_108, rh_108⟩, hF_109⟩ := hp
    have hG_110 := isV.frame hMr_104 go_.2.2.2.1 mq0_ kq0_ (by decide) (by decide) hV
    have g := g.more hF_109
    refine lv_istore_n (lv' := [(3, .int r_104), (2, .int x_3), (0, .ref a0_), (1, .int x1_)]) hx hb dX14_eval_181 rfl hl (by decide) rfl (fun ls hl => ?_)
    refine lv_iload_n hx hb dX14_eval_182 rfl (lv_at hl 1 rfl) ?_
    refine lv_sipush (v := 9766) hx hb dX14_eval_183 (by decide) ?_
    have kb_9766 : bd 9766 9766 (9766 : Int32) := ⟨by decide, by decide⟩
    refine lv_icmp_ne (tgt := 215) hx hb dX14_eval_186 (by decide) (fun c_111 => ?_) (fun c_111 => ?_)
    · have fc_111 := neq_f c_111
      refine lv_iload_n hx hb dX14_eval_215 rfl (lv_at hl 1 rfl) ?_
      refine lv_sipush (v := 31868) hx hb dX14_eval_216 (by decide) ?_
      have kb_31868 : bd 31868 31868 (31868 : Int32) := ⟨by decide, by decide⟩
      refine lv_icmp_ne (tgt := 248) hx hb dX14_eval_219 (by decide) (fun c_112 => ?_) (fun c_112 => ?_)
      · have fc_112 := neq_f c_112
        refine lv_aload_n hx hb dX14_eval_248 rfl (lv_at hl 2 rfl) ?_
        refine lv_aload_n hx hb dX14_eval_249 rfl (lv_at hl 2 rfl) ?_
        refine g_getk (C := RX14) (T := TX14) (N := 67) hx hb hts (mc_ inX14) hown hK g rfl 1 (by decide) rfl (hts _ (List.mem_cons_of_mem _ t_2147)) (fun _ h9 => h9) 4 rfl dX14_eval_250 ?_
        refine g_getr (K := 203) (C := RX12) (T := TX12) (N := 60) hx hb hts (mc_ inX12) hown hK g mq0_ kq0_ (by decide) rfl 49 (by decide) rfl (hts _ (List.mem_cons_of_mem _ t_2002)) (fun _ h9 => h9) rfl dX14_eval_253 (fun a_113 ma_113 ka_113 g => ?_)
        refine lv_iload_n hx hb dX14_eval_256 rfl (lv_at hl 3 rfl) ?_
        refine g_iald hx hb hK g ma_113 ka_113 (by decide) rfl (in_bd b_1 (by decide)) dX14_eval_257 (fun x_114 bx_114 cx_114 => ?_)
        have vx_114 : x_114 = V_.i 49 x1_.toNatClampNeg := hG_110.at g 0 rfl rfl cx_114
        have go_ := g
        refine g_callEi (As := [.int x_114]) (rest := []) ⟨hx, hb, hml, hown, hts⟩ (ih.1 l dC dI L kd tys fr_104 H.size g.2.2.2.1 a0_ ma0_ ka0_ x_114 q0_ mq0_ kq0_ V_ δ_ hW w_ bw x_107 h_108 Z_ O_ hG_110 hG_106 d_ hcl (h_ - 1) (ev_y hW hE vx_3 (by have a0 : x_3.toInt ≠ 1 := fun h => e_4 (Int32.toInt_inj.mp (h.trans (by decide))); have a1 : x_3.toInt ≠ 2 := fun h => e_10 (Int32.toInt_inj.mp (h.trans (by decide))); have a2 : x_3.toInt ≠ 3 := fun h => e_20 (Int32.toInt_inj.mp (h.trans (by decide))); have a3 : x_3.toInt ≠ 4 := fun h => e_30 (Int32.toInt_inj.mp (h.trans (by decide))); have a4 : x_3.toInt ≠ 5 := fun h => e_42 (Int32.toInt_inj.mp (h.trans (by decide))); have a5 : x_3.toInt ≠ 6 := fun h => e_46 (Int32.toInt_inj.mp (h.trans (by decide))); have a6 : x_3.toInt ≠ 7 := fun h => e_65 (Int32.toInt_inj.mp (h.trans (by decide))); have a7 : x_3.toInt ≠ 8 := fun h => e_78 (Int32.toInt_inj.mp (h.trans (by decide))); have a8 : x_3.toInt ≠ 9 := fun h => e_92 (Int32.toInt_inj.mp (h.trans (by decide)));  omega) vx_114) (by have hN9 := hN; have bw9 := bw; unfold bd at bw9; have h1_ := EV.hi hW hE; omega) (g.fcts [5, 1, 2] rfl)) (cwV 1 hts (gV_ t_2634 t_2636 t_146 t_198 t_2637) rfl rfl rfl (by decide +kernel) ⟨(show N + 5 + 1 ≤ N + 1 + 5 by omega), (show 8 + (5 + 11) + (40 * N + 300) ≤ 40 * (N + 1) + 300 by omega)⟩) (pre3V g hK ma0_ ka0_ (by decide) (q := (RX14, TX14, 67)) rfl) rfl hl.1 rfl (lv_room (Nat.le_of_ble_eq_true rfl)) dX14_eval_258 ⟨(Nat.le_of_ble_eq_true rfl), (Nat.le_of_ble_eq_true rfl)⟩ g hK (by decide) (by decide) (fx' := [(12, 49, q0_, .ref a_113), (12, 48, q0_, .ref a_102), (12, 47, q0_, .ref a_2), (14, 1, a0_, .ref q0_)]) rfl (fun xr_115 fr_115 H locs mxr_115 kxr_115 hp hMr_115 g => ?_) (fun r_115 fr_115 H locs hp hMr_115 g => ?_)
        · have hG_116 := isV.frame hMr_115 go_.2.2.2.1 mq0_ kq0_ (by decide) (by decide) hG_110
          subst hQ
          exact WX.leaves hempty hlocks (fun t ht hW => g_thrE g hK mxr_115 kxr_115 trivial ht hW) g.2.2.1.2.2
        · obtain ⟨hG_117, x_118, ⟨h_119, rh_119⟩, hF_120⟩ := hp
          have hG_121 := isV.frame hMr_115 go_.2.2.2.1 mq0_ kq0_ (by decide) (by decide) hG_110
          have g := g.more hF_120
          refine lv_istore (lv' := [(4, .int r_115), (3, .int r_104), (2, .int x_3), (0, .ref a0_), (1, .int x1_)]) hx hb dX14_eval_261 hl (by decide) rfl (fun ls hl => ?_)
          refine lv_iload_n hx hb dX14_eval_263 rfl (lv_at hl 2 rfl) ?_
          by_cases e_122 : x_3 = 42
          · refine lv_topi (fun z_123 ez_123 => ?_)
            obtain rfl : z_123 = 42 := ez_123.trans e_122
            have kb_42 : bd 42 42 (42 : Int32) := ⟨by decide, by decide⟩
            have b_124 : bd 42 42 x_3 := eqX (eq_f e_122) (bdT x_3) kb_42 (by decide)
            refine lv_lookup (off := 166) (tgt := 430) hx hb dX14_eval_264 (by decide) (by decide) (by decide) ?_
            refine lv_iload_n hx hb dX14_eval_430 rfl (lv_at hl 1 rfl) ?_
            refine lv_iload hx hb dX14_eval_431 (lv_at hl 0 rfl) ?_
            refine lv_imul hx hb dX14_eval_433 ?_
            refine lv_topi (fun y_125 ey_125 => ?_)
            subst hQ
            exact W.thenQ (W.iret (v := y_125) hx hb hr (fun t ht hW => g_retE g hK ⟨_, rfl, ⟨hG_117, x_118, ⟨h_119, (by have h9_0 := bs; unfold bd at h9_0; have h9_1 := bw; unfold bd at h9_1; have h9_2 := b_1; unfold bd at h9_2; have h9_3 := h_108; unfold bd at h9_3; have h9_4 := h_119; unfold bd at h9_4; have h9_5 := b_124; unfold bd at h9_5; have h8_0 := kb_31868; unfold bd at h8_0; have h8_1 := kb_42; unfold bd at h8_1; have h8_2 := kb_9766; unfold bd at h8_2; omega)⟩, (g.fcts [0, 1] rfl)⟩⟩ ht hW) g.2.2.1.2.2 dX14_eval_434) (fun _ => MQ.toE)
          by_cases e_126 : x_3 = 43
          · refine lv_topi (fun z_127 ez_127 => ?_)
            obtain rfl : z_127 = 43 := ez_127.trans e_126
            have kb_43 : bd 43 43 (43 : Int32) := ⟨by decide, by decide⟩
            have b_128 : bd 43 43 x_3 := eqX (eq_f e_126) (bdT x_3) kb_43 (by decide)
            refine lv_lookup (off := 156) (tgt := 420) hx hb dX14_eval_264 (by decide) (by decide) (by decide) ?_
            refine lv_iload_n hx hb dX14_eval_420 rfl (lv_at hl 1 rfl) ?_
            refine lv_iload hx hb dX14_eval_421 (lv_at hl 0 rfl) ?_
            refine lv_iadd hx hb dX14_eval_423 ?_
            refine lv_topi (fun y_129 ey_129 => ?_)
            subst hQ
            exact W.thenQ (W.iret (v := y_129) hx hb hr (fun t ht hW => g_retE g hK ⟨_, rfl, ⟨hG_117, x_118, ⟨h_119, (by have h9_0 := bs; unfold bd at h9_0; have h9_1 := bw; unfold bd at h9_1; have h9_2 := b_1; unfold bd at h9_2; have h9_3 := h_108; unfold bd at h9_3; have h9_4 := h_119; unfold bd at h9_4; have h9_5 := b_128; unfold bd at h9_5; have h8_0 := kb_31868; unfold bd at h8_0; have h8_1 := kb_43; unfold bd at h8_1; have h8_2 := kb_9766; unfold bd at h8_2; omega)⟩, (g.fcts [0, 1] rfl)⟩⟩ ht hW) g.2.2.1.2.2 dX14_eval_424) (fun _ => MQ.toE)
          by_cases e_130 : x_3 = 45
          · refine lv_topi (fun z_131 ez_131 => ?_)
            obtain rfl : z_131 = 45 := ez_131.trans e_130
            have kb_45 : bd 45 45 (45 : Int32) := ⟨by decide, by decide⟩
            have b_132 : bd 45 45 x_3 := eqX (eq_f e_130) (bdT x_3) kb_45 (by decide)
            refine lv_lookup (off := 161) (tgt := 425) hx hb dX14_eval_264 (by decide) (by decide) (by decide) ?_
            refine lv_iload_n hx hb dX14_eval_425 rfl (lv_at hl 1 rfl) ?_
            refine lv_iload hx hb dX14_eval_426 (lv_at hl 0 rfl) ?_
            refine lv_isub hx hb dX14_eval_428 ?_
            refine lv_topi (fun y_133 ey_133 => ?_)
            subst hQ
            exact W.thenQ (W.iret (v := y_133) hx hb hr (fun t ht hW => g_retE g hK ⟨_, rfl, ⟨hG_117, x_118, ⟨h_119, (by have h9_0 := bs; unfold bd at h9_0; have h9_1 := bw; unfold bd at h9_1; have h9_2 := b_1; unfold bd at h9_2; have h9_3 := h_108; unfold bd at h9_3; have h9_4 := h_119; unfold bd at h9_4; have h9_5 := b_132; unfold bd at h9_5; have h8_0 := kb_31868; unfold bd at h8_0; have h8_1 := kb_45; unfold bd at h8_1; have h8_2 := kb_9766; unfold bd at h8_2; omega)⟩, (g.fcts [0, 1] rfl)⟩⟩ ht hW) g.2.2.1.2.2 dX14_eval_429) (fun _ => MQ.toE)
          by_cases e_134 : x_3 = 60
          · refine lv_topi (fun z_135 ez_135 => ?_)
            obtain rfl : z_135 = 60 := ez_135.trans e_134
            have kb_60 : bd 60 60 (60 : Int32) := ⟨by decide, by decide⟩
            have b_136 : bd 60 60 x_3 := eqX (eq_f e_134) (bdT x_3) kb_60 (by decide)
            refine lv_lookup (off := 108) (tgt := 372) hx hb dX14_eval_264 (by decide) (by decide) (by decide) ?_
            refine lv_iload_n hx hb dX14_eval_372 rfl (lv_at hl 1 rfl) ?_
            refine lv_iload hx hb dX14_eval_373 (lv_at hl 0 rfl) ?_
            refine lv_icmp_ge (tgt := 382) hx hb dX14_eval_375 (by decide) (fun c_137 => ?_) (fun c_137 => ?_)
            · have fc_137 := le_f c_137
              refine lv_iconst (v := 0) hx hb dX14_eval_382 (by decide) ?_
              subst hQ
              exact W.thenQ (W.iret (v := 0) hx hb hr (fun t ht hW => g_retE g hK ⟨_, rfl, ⟨hG_117, x_118, ⟨h_119, (by have h9_0 := bs; unfold bd at h9_0; have h9_1 := bw; unfold bd at h9_1; have h9_2 := b_1; unfold bd at h9_2; have h9_3 := h_108; unfold bd at h9_3; have h9_4 := h_119; unfold bd at h9_4; have h9_5 := b_136; unfold bd at h9_5; have h8_0 := kb_31868; unfold bd at h8_0; have h8_1 := kb_60; unfold bd at h8_1; have h8_2 := kb_9766; unfold bd at h8_2; omega)⟩, (g.fcts [0, 1] rfl)⟩⟩ ht hW) g.2.2.1.2.2 dX14_eval_383) (fun _ => MQ.toE)
            · have fc_137 := nle_f c_137
              have b_138 : bd (-2147483648) 2147483646 r_104 := ltL fc_137 (bdT r_104) (bdT r_115) (by decide)
              have b_139 : bd (-2147483647) 2147483647 r_115 := ltR fc_137 (bdT r_104) (bdT r_115) (by decide)
              refine lv_iconst (v := 1) hx hb dX14_eval_378 (by decide) ?_
              refine lv_goto (tgt := 383) hx hb dX14_eval_379 (by decide) ?_
              subst hQ
              exact W.thenQ (W.iret (v := 1) hx hb hr (fun t ht hW => g_retE g hK ⟨_, rfl, ⟨hG_117, x_118, ⟨h_119, (by have h9_0 := b_138; unfold bd at h9_0; have h9_1 := b_139; unfold bd at h9_1; have h9_2 := bs; unfold bd at h9_2; have h9_3 := bw; unfold bd at h9_3; have h9_4 := b_1; unfold bd at h9_4; have h9_5 := h_108; unfold bd at h9_5; have h9_6 := h_119; unfold bd at h9_6; have h9_7 := b_136; unfold bd at h9_7; have h8_0 := kb_31868; unfold bd at h8_0; have h8_1 := kb_60; unfold bd at h8_1; have h8_2 := kb_9766; unfold bd at h8_2; omega)⟩, (g.fcts [0, 1] rfl)⟩⟩ ht hW) g.2.2.1.2.2 dX14_eval_383) (fun _ => MQ.toE)
          by_cases e_140 : x_3 = 62
          · refine lv_topi (fun z_141 ez_141 => ?_)
            obtain rfl : z_141 = 62 := ez_141.trans e_140
            have kb_62 : bd 62 62 (62 : Int32) := ⟨by decide, by decide⟩
            have b_142 : bd 62 62 x_3 := eqX (eq_f e_140) (bdT x_3) kb_62 (by decide)
            refine lv_lookup (off := 120) (tgt := 384) hx hb dX14_eval_264 (by decide) (by decide) (by decide) ?_
            refine lv_iload_n hx hb dX14_eval_384 rfl (lv_at hl 1 rfl) ?_
            refine lv_iload hx hb dX14_eval_385 (lv_at hl 0 rfl) ?_
            refine lv_icmp_le (tgt := 394) hx hb dX14_eval_387 (by decide) (fun c_143 => ?_) (fun c_143 => ?_)
            · have fc_143 := le_f c_143
              refine lv_iconst (v := 0) hx hb dX14_eval_394 (by decide) ?_
              subst hQ
              exact W.thenQ (W.iret (v := 0) hx hb hr (fun t ht hW => g_retE g hK ⟨_, rfl, ⟨hG_117, x_118, ⟨h_119, (by have h9_0 := bs; unfold bd at h9_0; have h9_1 := bw; unfold bd at h9_1; have h9_2 := b_1; unfold bd at h9_2; have h9_3 := h_108; unfold bd at h9_3; have h9_4 := h_119; unfold bd at h9_4; have h9_5 := b_142; unfold bd at h9_5; have h8_0 := kb_31868; unfold bd at h8_0; have h8_1 := kb_62; unfold bd at h8_1; have h8_2 := kb_9766; unfold bd at h8_2; omega)⟩, (g.fcts [0, 1] rfl)⟩⟩ ht hW) g.2.2.1.2.2 dX14_eval_395) (fun _ => MQ.toE)
            · have fc_143 := nle_f c_143
              have b_144 : bd (-2147483648) 2147483646 r_115 := ltL fc_143 (bdT r_115) (bdT r_104) (by decide)
              have b_145 : bd (-2147483647) 2147483647 r_104 := ltR fc_143 (bdT r_115) (bdT r_104) (by decide)
              refine lv_iconst (v := 1) hx hb dX14_eval_390 (by decide) ?_
              refine lv_goto (tgt := 395) hx hb dX14_eval_391 (by decide) ?_
              subst hQ
              exact W.thenQ (W.iret (v := 1) hx hb hr (fun t ht hW => g_retE g hK ⟨_, rfl, ⟨hG_117, x_118, ⟨h_119, (by have h9_0 := b_145; unfold bd at h9_0; have h9_1 := b_144; unfold bd at h9_1; have h9_2 := bs; unfold bd at h9_2; have h9_3 := bw; unfold bd at h9_3; have h9_4 := b_1; unfold bd at h9_4; have h9_5 := h_108; unfold bd at h9_5; have h9_6 := h_119; unfold bd at h9_6; have h9_7 := b_142; unfold bd at h9_7; have h8_0 := kb_31868; unfold bd at h8_0; have h8_1 := kb_62; unfold bd at h8_1; have h8_2 := kb_9766; unfold bd at h8_2; omega)⟩, (g.fcts [0, 1] rfl)⟩⟩ ht hW) g.2.2.1.2.2 dX14_eval_395) (fun _ => MQ.toE)
          by_cases e_146 : x_3 = 8509
          · refine lv_topi (fun z_147 ez_147 => ?_)
            obtain rfl : z_147 = 8509 := ez_147.trans e_146
            have kb_8509 : bd 8509 8509 (8509 : Int32) := ⟨by decide, by decide⟩
            have b_148 : bd 8509 8509 x_3 := eqX (eq_f e_146) (bdT x_3) kb_8509 (by decide)
            refine lv_lookup (off := 96) (tgt := 360) hx hb dX14_eval_264 (by decide) (by decide) (by decide) ?_
            refine lv_iload_n hx hb dX14_eval_360 rfl (lv_at hl 1 rfl) ?_
            refine lv_iload hx hb dX14_eval_361 (lv_at hl 0 rfl) ?_
            refine lv_icmp_eq (tgt := 370) hx hb dX14_eval_363 (by decide) (fun c_149 => ?_) (fun c_149 => ?_)
            · have fc_149 := eq_f c_149
              refine lv_iconst (v := 0) hx hb dX14_eval_370 (by decide) ?_
              subst hQ
              exact W.thenQ (W.iret (v := 0) hx hb hr (fun t ht hW => g_retE g hK ⟨_, rfl, ⟨hG_117, x_118, ⟨h_119, (by have h9_0 := bs; unfold bd at h9_0; have h9_1 := bw; unfold bd at h9_1; have h9_2 := b_1; unfold bd at h9_2; have h9_3 := h_108; unfold bd at h9_3; have h9_4 := h_119; unfold bd at h9_4; have h9_5 := b_148; unfold bd at h9_5; have h8_0 := kb_31868; unfold bd at h8_0; have h8_1 := kb_8509; unfold bd at h8_1; have h8_2 := kb_9766; unfold bd at h8_2; omega)⟩, (g.fcts [0, 1] rfl)⟩⟩ ht hW) g.2.2.1.2.2 dX14_eval_371) (fun _ => MQ.toE)
            · have fc_149 := neq_f c_149
              refine lv_iconst (v := 1) hx hb dX14_eval_366 (by decide) ?_
              refine lv_goto (tgt := 371) hx hb dX14_eval_367 (by decide) ?_
              subst hQ
              exact W.thenQ (W.iret (v := 1) hx hb hr (fun t ht hW => g_retE g hK ⟨_, rfl, ⟨hG_117, x_118, ⟨h_119, (by have h9_0 := bs; unfold bd at h9_0; have h9_1 := bw; unfold bd at h9_1; have h9_2 := b_1; unfold bd at h9_2; have h9_3 := h_108; unfold bd at h9_3; have h9_4 := h_119; unfold bd at h9_4; have h9_5 := b_148; unfold bd at h9_5; have h8_0 := kb_31868; unfold bd at h8_0; have h8_1 := kb_8509; unfold bd at h8_1; have h8_2 := kb_9766; unfold bd at h8_2; omega)⟩, (g.fcts [0, 1] rfl)⟩⟩ ht hW) g.2.2.1.2.2 dX14_eval_371) (fun _ => MQ.toE)
          by_cases e_150 : x_3 = 15421
          · refine lv_topi (fun z_151 ez_151 => ?_)
            obtain rfl : z_151 = 15421 := ez_151.trans e_150
            have kb_15421 : bd 15421 15421 (15421 : Int32) := ⟨by decide, by decide⟩
            have b_152 : bd 15421 15421 x_3 := eqX (eq_f e_150) (bdT x_3) kb_15421 (by decide)
            refine lv_lookup (off := 132) (tgt := 396) hx hb dX14_eval_264 (by decide) (by decide) (by decide) ?_
            refine lv_iload_n hx hb dX14_eval_396 rfl (lv_at hl 1 rfl) ?_
            refine lv_iload hx hb dX14_eval_397 (lv_at hl 0 rfl) ?_
            refine lv_icmp_gt (tgt := 406) hx hb dX14_eval_399 (by decide) (fun c_153 => ?_) (fun c_153 => ?_)
            · have fc_153 := lt_f c_153
              have b_154 : bd (-2147483648) 2147483646 r_115 := ltL fc_153 (bdT r_115) (bdT r_104) (by decide)
              have b_155 : bd (-2147483647) 2147483647 r_104 := ltR fc_153 (bdT r_115) (bdT r_104) (by decide)
              refine lv_iconst (v := 0) hx hb dX14_eval_406 (by decide) ?_
              subst hQ
              exact W.thenQ (W.iret (v := 0) hx hb hr (fun t ht hW => g_retE g hK ⟨_, rfl, ⟨hG_117, x_118, ⟨h_119, (by have h9_0 := b_155; unfold bd at h9_0; have h9_1 := b_154; unfold bd at h9_1; have h9_2 := bs; unfold bd at h9_2; have h9_3 := bw; unfold bd at h9_3; have h9_4 := b_1; unfold bd at h9_4; have h9_5 := h_108; unfold bd at h9_5; have h9_6 := h_119; unfold bd at h9_6; have h9_7 := b_152; unfold bd at h9_7; have h8_0 := kb_15421; unfold bd at h8_0; have h8_1 := kb_31868; unfold bd at h8_1; have h8_2 := kb_9766; unfold bd at h8_2; omega)⟩, (g.fcts [0, 1] rfl)⟩⟩ ht hW) g.2.2.1.2.2 dX14_eval_407) (fun _ => MQ.toE)
            · have fc_153 := nlt_f c_153
              refine lv_iconst (v := 1) hx hb dX14_eval_402 (by decide) ?_
              refine lv_goto (tgt := 407) hx hb dX14_eval_403 (by decide) ?_
              subst hQ
              exact W.thenQ (W.iret (v := 1) hx hb hr (fun t ht hW => g_retE g hK ⟨_, rfl, ⟨hG_117, x_118, ⟨h_119, (by have h9_0 := bs; unfold bd at h9_0; have h9_1 := bw; unfold bd at h9_1; have h9_2 := b_1; unfold bd at h9_2; have h9_3 := h_108; unfold bd at h9_3; have h9_4 := h_119; unfold bd at h9_4; have h9_5 := b_152; unfold bd at h9_5; have h8_0 := kb_15421; unfold bd at h8_0; have h8_1 := kb_31868; unfold bd at h8_1; have h8_2 := kb_9766; unfold bd at h8_2; omega)⟩, (g.fcts [0, 1] rfl)⟩⟩ ht hW) g.2.2.1.2.2 dX14_eval_407) (fun _ => MQ.toE)
          by_cases e_156 : x_3 = 15677
          · refine lv_topi (fun z_157 ez_157 => ?_)
            obtain rfl : z_157 = 15677 := ez_157.trans e_156
            have kb_15677 : bd 15677 15677 (15677 : Int32) := ⟨by decide, by decide⟩
            have b_158 : bd 15677 15677 x_3 := eqX (eq_f e_156) (bdT x_3) kb_15677 (by decide)
            refine lv_lookup (off := 84) (tgt := 348) hx hb dX14_eval_264 (by decide) (by decide) (by decide) ?_
            refine lv_iload_n hx hb dX14_eval_348 rfl (lv_at hl 1 rfl) ?_
            refine lv_iload hx hb dX14_eval_349 (lv_at hl 0 rfl) ?_
            refine lv_icmp_ne (tgt := 358) hx hb dX14_eval_351 (by decide) (fun c_159 => ?_) (fun c_159 => ?_)
            · have fc_159 := neq_f c_159
              refine lv_iconst (v := 0) hx hb dX14_eval_358 (by decide) ?_
              subst hQ
              exact W.thenQ (W.iret (v := 0) hx hb hr (fun t ht hW => g_retE g hK ⟨_, rfl, ⟨hG_117, x_118, ⟨h_119, (by have h9_0 := bs; unfold bd at h9_0; have h9_1 := bw; unfold bd at h9_1; have h9_2 := b_1; unfold bd at h9_2; have h9_3 := h_108; unfold bd at h9_3; have h9_4 := h_119; unfold bd at h9_4; have h9_5 := b_158; unfold bd at h9_5; have h8_0 := kb_15677; unfold bd at h8_0; have h8_1 := kb_31868; unfold bd at h8_1; have h8_2 := kb_9766; unfold bd at h8_2; omega)⟩, (g.fcts [0, 1] rfl)⟩⟩ ht hW) g.2.2.1.2.2 dX14_eval_359) (fun _ => MQ.toE)
            · have fc_159 := eq_f c_159
              refine lv_iconst (v := 1) hx hb dX14_eval_354 (by decide) ?_
              refine lv_goto (tgt := 359) hx hb dX14_eval_355 (by decide) ?_
              subst hQ
              exact W.thenQ (W.iret (v := 1) hx hb hr (fun t ht hW => g_retE g hK ⟨_, rfl, ⟨hG_117, x_118, ⟨h_119, (by have h9_0 := bs; unfold bd at h9_0; have h9_1 := bw; unfold bd at h9_1; have h9_2 := b_1; unfold bd at h9_2; have h9_3 := h_108; unfold bd at h9_3; have h9_4 := h_119; unfold bd at h9_4; have h9_5 := b_158; unfold bd at h9_5; have h8_0 := kb_15677; unfold bd at h8_0; have h8_1 := kb_31868; unfold bd at h8_1; have h8_2 := kb_9766; unfold bd at h8_2; omega)⟩, (g.fcts [0, 1] rfl)⟩⟩ ht hW) g.2.2.1.2.2 dX14_eval_359) (fun _ => MQ.toE)
          by_cases e_160 : x_3 = 15933
          · refine lv_topi (fun z_161 ez_161 => ?_)
            obtain rfl : z_161 = 15933 := ez_161.trans e_160
            have kb_15933 : bd 15933 15933 (15933 : Int32) := ⟨by decide, by decide⟩
            have b_162 : bd 15933 15933 x_3 := eqX (eq_f e_160) (bdT x_3) kb_15933 (by decide)
            refine lv_lookup (off := 144) (tgt := 408) hx hb dX14_eval_264 (by decide) (by decide) (by decide) ?_
            refine lv_iload_n hx hb dX14_eval_408 rfl (lv_at hl 1 rfl) ?_
            refine lv_iload hx hb dX14_eval_409 (lv_at hl 0 rfl) ?_
            refine lv_icmp_lt (tgt := 418) hx hb dX14_eval_411 (by decide) (fun c_163 => ?_) (fun c_163 => ?_)
            · have fc_163 := lt_f c_163
              have b_164 : bd (-2147483648) 2147483646 r_104 := ltL fc_163 (bdT r_104) (bdT r_115) (by decide)
              have b_165 : bd (-2147483647) 2147483647 r_115 := ltR fc_163 (bdT r_104) (bdT r_115) (by decide)
              refine lv_iconst (v := 0) hx hb dX14_eval_418 (by decide) ?_
              subst hQ
              exact W.thenQ (W.iret (v := 0) hx hb hr (fun t ht hW => g_retE g hK ⟨_, rfl, ⟨hG_117, x_118, ⟨h_119, (by have h9_0 := b_164; unfold bd at h9_0; have h9_1 := b_165; unfold bd at h9_1; have h9_2 := bs; unfold bd at h9_2; have h9_3 := bw; unfold bd at h9_3; have h9_4 := b_1; unfold bd at h9_4; have h9_5 := h_108; unfold bd at h9_5; have h9_6 := h_119; unfold bd at h9_6; have h9_7 := b_162; unfold bd at h9_7; have h8_0 := kb_15933; unfold bd at h8_0; have h8_1 := kb_31868; unfold bd at h8_1; have h8_2 := kb_9766; unfold bd at h8_2; omega)⟩, (g.fcts [0, 1] rfl)⟩⟩ ht hW) g.2.2.1.2.2 dX14_eval_419) (fun _ => MQ.toE)
            · have fc_163 := nlt_f c_163
              refine lv_iconst (v := 1) hx hb dX14_eval_414 (by decide) ?_
              refine lv_goto (tgt := 419) hx hb dX14_eval_415 (by decide) ?_
              subst hQ
              exact W.thenQ (W.iret (v := 1) hx hb hr (fun t ht hW => g_retE g hK ⟨_, rfl, ⟨hG_117, x_118, ⟨h_119, (by have h9_0 := bs; unfold bd at h9_0; have h9_1 := bw; unfold bd at h9_1; have h9_2 := b_1; unfold bd at h9_2; have h9_3 := h_108; unfold bd at h9_3; have h9_4 := h_119; unfold bd at h9_4; have h9_5 := b_162; unfold bd at h9_5; have h8_0 := kb_15933; unfold bd at h8_0; have h8_1 := kb_31868; unfold bd at h8_1; have h8_2 := kb_9766; unfold bd at h8_2; omega)⟩, (g.fcts [0, 1] rfl)⟩⟩ ht hW) g.2.2.1.2.2 dX14_eval_419) (fun _ => MQ.toE)
          refine lv_lookup (off := 171) (tgt := 435) hx hb dX14_eval_264 (by decide) (by have a0 : x_3.toInt ≠ 42 := fun h => e_122 (Int32.toInt_inj.mp (h.trans (by decide))); have a1 : x_3.toInt ≠ 43 := fun h => e_126 (Int32.toInt_inj.mp (h.trans (by decide))); have a2 : x_3.toInt ≠ 45 := fun h => e_130 (Int32.toInt_inj.mp (h.trans (by decide))); have a3 : x_3.toInt ≠ 60 := fun h => e_134 (Int32.toInt_inj.mp (h.trans (by decide))); have a4 : x_3.toInt ≠ 62 := fun h => e_140 (Int32.toInt_inj.mp (h.trans (by decide))); have a5 : x_3.toInt ≠ 8509 := fun h => e_146 (Int32.toInt_inj.mp (h.trans (by decide))); have a6 : x_3.toInt ≠ 15421 := fun h => e_150 (Int32.toInt_inj.mp (h.trans (by decide))); have a7 : x_3.toInt ≠ 15677 := fun h => e_156 (Int32.toInt_inj.mp (h.trans (by decide))); have a8 : x_3.toInt ≠ 15933 := fun h => e_160 (Int32.toInt_inj.mp (h.trans (by decide))); simp [Op.lookupswitch.offset, a0, a1, a2, a3, a4, a5, a6, a7, a8, Ne.symm]) (by decide) ?_
          refine lv_iload hx hb dX14_eval_435 (lv_at hl 0 rfl) ?_
          have kb_0 : bd 0 0 (0 : Int32) := ⟨by decide, by decide⟩
          refine lv_if_ne (tgt := 448) hx hb dX14_eval_437 (by decide) (fun c_166 => ?_) (fun c_166 => ?_)
          · have fc_166 := neq_f c_166
            refine lv_iload hx hb dX14_eval_448 (lv_at hl 0 rfl) ?_
            refine lv_iconst (v := (-1)) hx hb dX14_eval_450 (by decide) ?_
            have kb_m1 : bd (-1) (-1) ((-1) : Int32) := ⟨by decide, by decide⟩
            refine lv_icmp_ne (tgt := 467) hx hb dX14_eval_451 (by decide) (fun c_167 => ?_) (fun c_167 => ?_)
            · have fc_167 := neq_f c_167
              refine lv_iload_n hx hb dX14_eval_467 rfl (lv_at hl 2 rfl) ?_
              refine lv_bipush (v := 47) hx hb dX14_eval_468 (by decide) ?_
              have kb_47 : bd 47 47 (47 : Int32) := ⟨by decide, by decide⟩
              refine lv_icmp_ne (tgt := 480) hx hb dX14_eval_470 (by decide) (fun c_168 => ?_) (fun c_168 => ?_)
              · have fc_168 := neq_f c_168
                refine lv_iload_n hx hb dX14_eval_480 rfl (lv_at hl 1 rfl) ?_
                refine lv_iload hx hb dX14_eval_481 (lv_at hl 0 rfl) ?_
                refine lv_irem hx hb dX14_eval_483 c_166 ?_
                refine lv_topi (fun y_169 ey_169 => ?_)
                subst hQ
                exact W.thenQ (W.iret (v := y_169) hx hb hr (fun t ht hW => g_retE g hK ⟨_, rfl, ⟨hG_117, x_118, ⟨h_119, (by have h9_0 := bs; unfold bd at h9_0; have h9_1 := bw; unfold bd at h9_1; have h9_2 := b_1; unfold bd at h9_2; have h9_3 := h_108; unfold bd at h9_3; have h9_4 := h_119; unfold bd at h9_4; have h8_0 := kb_0; unfold bd at h8_0; have h8_1 := kb_31868; unfold bd at h8_1; have h8_2 := kb_47; unfold bd at h8_2; have h8_3 := kb_9766; unfold bd at h8_3; have h8_4 := kb_m1; unfold bd at h8_4; omega)⟩, (g.fcts [0, 1] rfl)⟩⟩ ht hW) g.2.2.1.2.2 dX14_eval_484) (fun _ => MQ.toE)
              · have fc_168 := eq_f c_168
                have b_170 : bd 47 47 x_3 := eqX fc_168 (bdT x_3) kb_47 (by decide)
                refine lv_iload_n hx hb dX14_eval_473 rfl (lv_at hl 1 rfl) ?_
                refine lv_iload hx hb dX14_eval_474 (lv_at hl 0 rfl) ?_
                refine lv_idiv hx hb dX14_eval_476 c_166 ?_
                refine lv_topi (fun y_171 ey_171 => ?_)
                refine lv_goto (tgt := 484) hx hb dX14_eval_477 (by decide) ?_
                subst hQ
                exact W.thenQ (W.iret (v := y_171) hx hb hr (fun t ht hW => g_retE g hK ⟨_, rfl, ⟨hG_117, x_118, ⟨h_119, (by have h9_0 := bs; unfold bd at h9_0; have h9_1 := bw; unfold bd at h9_1; have h9_2 := b_1; unfold bd at h9_2; have h9_3 := h_108; unfold bd at h9_3; have h9_4 := h_119; unfold bd at h9_4; have h9_5 := b_170; unfold bd at h9_5; have h8_0 := kb_0; unfold bd at h8_0; have h8_1 := kb_31868; unfold bd at h8_1; have h8_2 := kb_47; unfold bd at h8_2; have h8_3 := kb_9766; unfold bd at h8_3; have h8_4 := kb_m1; unfold bd at h8_4; omega)⟩, (g.fcts [0, 1] rfl)⟩⟩ ht hW) g.2.2.1.2.2 dX14_eval_484) (fun _ => MQ.toE)
            · have fc_167 := eq_f c_167
              have b_172 : bd (-1) (-1) r_115 := eqX fc_167 (bdT r_115) kb_m1 (by decide)
              refine lv_iload_n hx hb dX14_eval_454 rfl (lv_at hl 2 rfl) ?_
              refine lv_bipush (v := 47) hx hb dX14_eval_455 (by decide) ?_
              have kb_47 : bd 47 47 (47 : Int32) := ⟨by decide, by decide⟩
              refine lv_icmp_ne (tgt := 465) hx hb dX14_eval_457 (by decide) (fun c_173 => ?_) (fun c_173 => ?_)
              · have fc_173 := neq_f c_173
                refine lv_iconst (v := 0) hx hb dX14_eval_465 (by decide) ?_
                subst hQ
                exact W.thenQ (W.iret (v := 0) hx hb hr (fun t ht hW => g_retE g hK ⟨_, rfl, ⟨hG_117, x_118, ⟨h_119, (by have h9_0 := b_172; unfold bd at h9_0; have h9_1 := bs; unfold bd at h9_1; have h9_2 := bw; unfold bd at h9_2; have h9_3 := b_1; unfold bd at h9_3; have h9_4 := h_108; unfold bd at h9_4; have h9_5 := h_119; unfold bd at h9_5; have h8_0 := kb_0; unfold bd at h8_0; have h8_1 := kb_31868; unfold bd at h8_1; have h8_2 := kb_47; unfold bd at h8_2; have h8_3 := kb_9766; unfold bd at h8_3; have h8_4 := kb_m1; unfold bd at h8_4; omega)⟩, (g.fcts [0, 1] rfl)⟩⟩ ht hW) g.2.2.1.2.2 dX14_eval_466) (fun _ => MQ.toE)
              · have fc_173 := eq_f c_173
                have b_174 : bd 47 47 x_3 := eqX fc_173 (bdT x_3) kb_47 (by decide)
                refine lv_iload_n hx hb dX14_eval_460 rfl (lv_at hl 1 rfl) ?_
                refine lv_ineg hx hb dX14_eval_461 ?_
                refine lv_topi (fun y_175 ey_175 => ?_)
                refine lv_goto (tgt := 466) hx hb dX14_eval_462 (by decide) ?_
                subst hQ
                exact W.thenQ (W.iret (v := y_175) hx hb hr (fun t ht hW => g_retE g hK ⟨_, rfl, ⟨hG_117, x_118, ⟨h_119, (by have h9_0 := b_172; unfold bd at h9_0; have h9_1 := bs; unfold bd at h9_1; have h9_2 := bw; unfold bd at h9_2; have h9_3 := b_1; unfold bd at h9_3; have h9_4 := h_108; unfold bd at h9_4; have h9_5 := h_119; unfold bd at h9_5; have h9_6 := b_174; unfold bd at h9_6; have h8_0 := kb_0; unfold bd at h8_0; have h8_1 := kb_31868; unfold bd at h8_1; have h8_2 := kb_47; unfold bd at h8_2; have h8_3 := kb_9766; unfold bd at h8_3; have h8_4 := kb_m1; unfold bd at h8_4; omega)⟩, (g.fcts [0, 1] rfl)⟩⟩ ht hW) g.2.2.1.2.2 dX14_eval_466) (fun _ => MQ.toE)
          · have fc_166 := eq_f c_166
            have b_176 : bd 0 0 r_115 := eqX fc_166 (bdT r_115) kb_0 (by decide)
            refine lv_aload_n hx hb dX14_eval_440 rfl (lv_at hl 3 rfl) ?_
            refine lv_ldc2 (v := 2053468783) hx hb hown (hts _ (List.mem_cons_of_mem _ t_2679)) dX14_eval_441 ?_
            refine lv_lconst (v := 0) hx hb dX14_eval_444 (by decide) ?_
            have go_ := g
            refine g_callEv (As := [.long 2053468783, .long 0]) (rest := []) ⟨hx, hb, hml, hown, hts⟩ (r_X14_throwsWord l dC dI L kd tys fr_115 H.size g.2.2.2.1 a0_ ma0_ ka0_ 2053468783 0) (cwV 2 hts (gV_ t_2647 t_2649 t_149 t_198 t_2650) rfl rfl rfl (by decide +kernel) ⟨(show 1 + 1 ≤ N + 1 + 5 by omega), (show 8 + (5 + 11) + 21 ≤ 40 * (N + 1) + 300 by omega)⟩) (pre3V g hK ma0_ ka0_ (by decide) (q := (RX14, TX14, 67)) rfl) rfl hl.1 rfl (lv_room (Nat.le_of_ble_eq_true rfl)) dX14_eval_445 ⟨(Nat.le_of_ble_eq_true rfl), (Nat.le_of_ble_eq_true rfl)⟩ g hK (by decide) (by decide) (fx' := [(14, 35, a0_, .int w_), (14, 34, a0_, .int x_118), (12, 49, q0_, .ref a_113), (12, 48, q0_, .ref a_102), (12, 47, q0_, .ref a_2), (14, 1, a0_, .ref q0_)]) rfl (fun xr_177 fr_177 H locs mxr_177 kxr_177 hp hMr_177 g => ?_) (fun fr_177 H locs hp hMr_177 g => ?_)
            · have hG_178 := isV.frame hMr_177 go_.2.2.2.1 mq0_ kq0_ (by decide) (by decide) hG_121
              have hG_179 := RA.frame hMr_177 go_.2.2.2.1 ma0_ ka0_ (by decide) (by decide) hG_117
              subst hQ
              exact WX.leaves hempty hlocks (fun t ht hW => g_thrE g hK mxr_177 kxr_177 trivial ht hW) g.2.2.1.2.2
            · exact hp.elim
      · have fc_112 := eq_f c_112
        have b_180 : bd 31868 31868 x_3 := eqX fc_112 (bdT x_3) kb_31868 (by decide)
        refine lv_iload_n hx hb dX14_eval_222 rfl (lv_at hl 0 rfl) ?_
        have kb_0 : bd 0 0 (0 : Int32) := ⟨by decide, by decide⟩
        refine lv_if_ne (tgt := 242) hx hb dX14_eval_223 (by decide) (fun c_181 => ?_) (fun c_181 => ?_)
        · have fc_181 := neq_f c_181
          refine lv_iconst (v := 1) hx hb dX14_eval_242 (by decide) ?_
          refine lv_goto (tgt := 247) hx hb dX14_eval_243 (by decide) ?_
          subst hQ
          exact W.thenQ (W.iret (v := 1) hx hb hr (fun t ht hW => g_retE g hK ⟨_, rfl, ⟨hG_106, x_107, ⟨h_108, (by have h9_0 := bs; unfold bd at h9_0; have h9_1 := bw; unfold bd at h9_1; have h9_2 := b_1; unfold bd at h9_2; have h9_3 := h_108; unfold bd at h9_3; have h9_4 := b_180; unfold bd at h9_4; have h8_0 := kb_0; unfold bd at h8_0; have h8_1 := kb_31868; unfold bd at h8_1; have h8_2 := kb_9766; unfold bd at h8_2; omega)⟩, (g.fcts [0, 1] rfl)⟩⟩ ht hW) g.2.2.1.2.2 dX14_eval_247) (fun _ => MQ.toE)
        · have fc_181 := eq_f c_181
          have b_182 : bd 0 0 r_104 := eqX fc_181 (bdT r_104) kb_0 (by decide)
          refine lv_aload_n hx hb dX14_eval_226 rfl (lv_at hl 2 rfl) ?_
          refine lv_aload_n hx hb dX14_eval_227 rfl (lv_at hl 2 rfl) ?_
          refine g_getk (C := RX14) (T := TX14) (N := 67) hx hb hts (mc_ inX14) hown hK g rfl 1 (by decide) rfl (hts _ (List.mem_cons_of_mem _ t_2147)) (fun _ h9 => h9) 4 rfl dX14_eval_228 ?_
          refine g_getr (K := 203) (C := RX12) (T := TX12) (N := 60) hx hb hts (mc_ inX12) hown hK g mq0_ kq0_ (by decide) rfl 49 (by decide) rfl (hts _ (List.mem_cons_of_mem _ t_2002)) (fun _ h9 => h9) rfl dX14_eval_231 (fun a_183 ma_183 ka_183 g => ?_)
          refine lv_iload_n hx hb dX14_eval_234 rfl (lv_at hl 3 rfl) ?_
          refine g_iald hx hb hK g ma_183 ka_183 (by decide) rfl (in_bd b_1 (by decide)) dX14_eval_235 (fun x_184 bx_184 cx_184 => ?_)
          have vx_184 : x_184 = V_.i 49 x1_.toNatClampNeg := hG_110.at g 0 rfl rfl cx_184
          have go_ := g
          refine g_callEi (As := [.int x_184]) (rest := []) ⟨hx, hb, hml, hown, hts⟩ (ih.1 l dC dI L kd tys fr_104 H.size g.2.2.2.1 a0_ ma0_ ka0_ x_184 q0_ mq0_ kq0_ V_ δ_ hW w_ bw x_107 h_108 Z_ O_ hG_110 hG_106 d_ hcl (h_ - 1) (ev_y hW hE vx_3 (by have h9 := b_180; unfold bd at h9; omega) vx_184) (by have hN9 := hN; have bw9 := bw; unfold bd at bw9; have h1_ := EV.hi hW hE; omega) (g.fcts [5, 1, 2] rfl)) (cwV 1 hts (gV_ t_2634 t_2636 t_146 t_198 t_2637) rfl rfl rfl (by decide +kernel) ⟨(show N + 5 + 1 ≤ N + 1 + 5 by omega), (show 8 + (5 + 11) + (40 * N + 300) ≤ 40 * (N + 1) + 300 by omega)⟩) (pre3V g hK ma0_ ka0_ (by decide) (q := (RX14, TX14, 67)) rfl) rfl hl.1 rfl (lv_room (Nat.le_of_ble_eq_true rfl)) dX14_eval_236 ⟨(Nat.le_of_ble_eq_true rfl), (Nat.le_of_ble_eq_true rfl)⟩ g hK (by decide) (by decide) (fx' := [(12, 49, q0_, .ref a_183), (12, 48, q0_, .ref a_102), (12, 47, q0_, .ref a_2), (14, 1, a0_, .ref q0_)]) rfl (fun xr_185 fr_185 H locs mxr_185 kxr_185 hp hMr_185 g => ?_) (fun r_185 fr_185 H locs hp hMr_185 g => ?_)
          · have hG_186 := isV.frame hMr_185 go_.2.2.2.1 mq0_ kq0_ (by decide) (by decide) hG_110
            subst hQ
            exact WX.leaves hempty hlocks (fun t ht hW => g_thrE g hK mxr_185 kxr_185 trivial ht hW) g.2.2.1.2.2
          · obtain ⟨hG_187, x_188, ⟨h_189, rh_189⟩, hF_190⟩ := hp
            have hG_191 := isV.frame hMr_185 go_.2.2.2.1 mq0_ kq0_ (by decide) (by decide) hG_110
            have g := g.more hF_190
            refine lv_if_eq (tgt := 246) hx hb dX14_eval_239 (by decide) (fun c_192 => ?_) (fun c_192 => ?_)
            · have fc_192 := eq_f c_192
              have b_193 : bd 0 0 r_185 := eqX fc_192 (bdT r_185) kb_0 (by decide)
              refine lv_iconst (v := 0) hx hb dX14_eval_246 (by decide) ?_
              subst hQ
              exact W.thenQ (W.iret (v := 0) hx hb hr (fun t ht hW => g_retE g hK ⟨_, rfl, ⟨hG_187, x_188, ⟨h_189, (by have h9_0 := b_182; unfold bd at h9_0; have h9_1 := b_193; unfold bd at h9_1; have h9_2 := bs; unfold bd at h9_2; have h9_3 := bw; unfold bd at h9_3; have h9_4 := b_1; unfold bd at h9_4; have h9_5 := h_108; unfold bd at h9_5; have h9_6 := h_189; unfold bd at h9_6; have h9_7 := b_180; unfold bd at h9_7; have h8_0 := kb_0; unfold bd at h8_0; have h8_1 := kb_31868; unfold bd at h8_1; have h8_2 := kb_9766; unfold bd at h8_2; omega)⟩, (g.fcts [0, 1] rfl)⟩⟩ ht hW) g.2.2.1.2.2 dX14_eval_247) (fun _ => MQ.toE)
            · have fc_192 := neq_f c_192
              refine lv_iconst (v := 1) hx hb dX14_eval_242 (by decide) ?_
              refine lv_goto (tgt := 247) hx hb dX14_eval_243 (by decide) ?_
              subst hQ
              exact W.thenQ (W.iret (v := 1) hx hb hr (fun t ht hW => g_retE g hK ⟨_, rfl, ⟨hG_187, x_188, ⟨h_189, (by have h9_0 := b_182; unfold bd at h9_0; have h9_1 := bs; unfold bd at h9_1; have h9_2 := bw; unfold bd at h9_2; have h9_3 := b_1; unfold bd at h9_3; have h9_4 := h_108; unfold bd at h9_4; have h9_5 := h_189; unfold bd at h9_5; have h9_6 := b_180; unfold bd at h9_6; have h8_0 := kb_0; unfold bd at h8_0; have h8_1 := kb_31868; unfold bd at h8_1; have h8_2 := kb_9766; unfold bd at h8_2; omega)⟩, (g.fcts [0, 1] rfl)⟩⟩ ht hW) g.2.2.1.2.2 dX14_eval_247) (fun _ => MQ.toE)
    · have fc_111 := eq_f c_111
      have b_194 : bd 9766 9766 x_3 := eqX fc_111 (bdT x_3) kb_9766 (by decide)
      refine lv_iload_n hx hb dX14_eval_189 rfl (lv_at hl 0 rfl) ?_
      have kb_0 : bd 0 0 (0 : Int32) := ⟨by decide, by decide⟩
      refine lv_if_eq (tgt := 213) hx hb dX14_eval_190 (by decide) (fun c_195 => ?_) (fun c_195 => ?_)
      · have fc_195 := eq_f c_195
        have b_196 : bd 0 0 r_104 := eqX fc_195 (bdT r_104) kb_0 (by decide)
        refine lv_iconst (v := 0) hx hb dX14_eval_213 (by decide) ?_
        subst hQ
        exact W.thenQ (W.iret (v := 0) hx hb hr (fun t ht hW => g_retE g hK ⟨_, rfl, ⟨hG_106, x_107, ⟨h_108, (by have h9_0 := b_196; unfold bd at h9_0; have h9_1 := bs; unfold bd at h9_1; have h9_2 := bw; unfold bd at h9_2; have h9_3 := b_1; unfold bd at h9_3; have h9_4 := h_108; unfold bd at h9_4; have h9_5 := b_194; unfold bd at h9_5; have h8_0 := kb_0; unfold bd at h8_0; have h8_1 := kb_9766; unfold bd at h8_1; omega)⟩, (g.fcts [0, 1] rfl)⟩⟩ ht hW) g.2.2.1.2.2 dX14_eval_214) (fun _ => MQ.toE)
      · have fc_195 := neq_f c_195
        refine lv_aload_n hx hb dX14_eval_193 rfl (lv_at hl 2 rfl) ?_
        refine lv_aload_n hx hb dX14_eval_194 rfl (lv_at hl 2 rfl) ?_
        refine g_getk (C := RX14) (T := TX14) (N := 67) hx hb hts (mc_ inX14) hown hK g rfl 1 (by decide) rfl (hts _ (List.mem_cons_of_mem _ t_2147)) (fun _ h9 => h9) 4 rfl dX14_eval_195 ?_
        refine g_getr (K := 203) (C := RX12) (T := TX12) (N := 60) hx hb hts (mc_ inX12) hown hK g mq0_ kq0_ (by decide) rfl 49 (by decide) rfl (hts _ (List.mem_cons_of_mem _ t_2002)) (fun _ h9 => h9) rfl dX14_eval_198 (fun a_197 ma_197 ka_197 g => ?_)
        refine lv_iload_n hx hb dX14_eval_201 rfl (lv_at hl 3 rfl) ?_
        refine g_iald hx hb hK g ma_197 ka_197 (by decide) rfl (in_bd b_1 (by decide)) dX14_eval_202 (fun x_198 bx_198 cx_198 => ?_)
        have vx_198 : x_198 = V_.i 49 x1_.toNatClampNeg := hG_110.at g 0 rfl rfl cx_198
        have go_ := g
        refine g_callEi (As := [.int x_198]) (rest := []) ⟨hx, hb, hml, hown, hts⟩ (ih.1 l dC dI L kd tys fr_104 H.size g.2.2.2.1 a0_ ma0_ ka0_ x_198 q0_ mq0_ kq0_ V_ δ_ hW w_ bw x_107 h_108 Z_ O_ hG_110 hG_106 d_ hcl (h_ - 1) (ev_y hW hE vx_3 (by have h9 := b_194; unfold bd at h9; omega) vx_198) (by have hN9 := hN; have bw9 := bw; unfold bd at bw9; have h1_ := EV.hi hW hE; omega) (g.fcts [5, 1, 2] rfl)) (cwV 1 hts (gV_ t_2634 t_2636 t_146 t_198 t_2637) rfl rfl rfl (by decide +kernel) ⟨(show N + 5 + 1 ≤ N + 1 + 5 by omega), (show 8 + (5 + 11) + (40 * N + 300) ≤ 40 * (N + 1) + 300 by omega)⟩) (pre3V g hK ma0_ ka0_ (by decide) (q := (RX14, TX14, 67)) rfl) rfl hl.1 rfl (lv_room (Nat.le_of_ble_eq_true rfl)) dX14_eval_203 ⟨(Nat.le_of_ble_eq_true rfl), (Nat.le_of_ble_eq_true rfl)⟩ g hK (by decide) (by decide) (fx' := [(12, 49, q0_, .ref a_197), (12, 48, q0_, .ref a_102), (12, 47, q0_, .ref a_2), (14, 1, a0_, .ref q0_)]) rfl (fun xr_199 fr_199 H locs mxr_199 kxr_199 hp hMr_199 g => ?_) (fun r_199 fr_199 H locs hp hMr_199 g => ?_)
        · have hG_200 := isV.frame hMr_199 go_.2.2.2.1 mq0_ kq0_ (by decide) (by decide) hG_110
          subst hQ
          exact WX.leaves hempty hlocks (fun t ht hW => g_thrE g hK mxr_199 kxr_199 trivial ht hW) g.2.2.1.2.2
        · obtain ⟨hG_201, x_202, ⟨h_203, rh_203⟩, hF_204⟩ := hp
          have hG_205 := isV.frame hMr_199 go_.2.2.2.1 mq0_ kq0_ (by decide) (by decide) hG_110
          have g := g.more hF_204
          refine lv_if_eq (tgt := 213) hx hb dX14_eval_206 (by decide) (fun c_206 => ?_) (fun c_206 => ?_)
          · have fc_206 := eq_f c_206
            have b_207 : bd 0 0 r_199 := eqX fc_206 (bdT r_199) kb_0 (by decide)
            refine lv_iconst (v := 0) hx hb dX14_eval_213 (by decide) ?_
            subst hQ
            exact W.thenQ (W.iret (v := 0) hx hb hr (fun t ht hW => g_retE g hK ⟨_, rfl, ⟨hG_201, x_202, ⟨h_203, (by have h9_0 := b_207; unfold bd at h9_0; have h9_1 := bs; unfold bd at h9_1; have h9_2 := bw; unfold bd at h9_2; have h9_3 := b_1; unfold bd at h9_3; have h9_4 := h_108; unfold bd at h9_4; have h9_5 := h_203; unfold bd at h9_5; have h9_6 := b_194; unfold bd at h9_6; have h8_0 := kb_0; unfold bd at h8_0; have h8_1 := kb_9766; unfold bd at h8_1; omega)⟩, (g.fcts [0, 1] rfl)⟩⟩ ht hW) g.2.2.1.2.2 dX14_eval_214) (fun _ => MQ.toE)
          · have fc_206 := neq_f c_206
            refine lv_iconst (v := 1) hx hb dX14_eval_209 (by decide) ?_
            refine lv_goto (tgt := 214) hx hb dX14_eval_210 (by decide) ?_
            subst hQ
            exact W.thenQ (W.iret (v := 1) hx hb hr (fun t ht hW => g_retE g hK ⟨_, rfl, ⟨hG_201, x_202, ⟨h_203, (by have h9_0 := bs; unfold bd at h9_0; have h9_1 := bw; unfold bd at h9_1; have h9_2 := b_1; unfold bd at h9_2; have h9_3 := h_108; unfold bd at h9_3; have h9_4 := h_203; unfold bd at h9_4; have h9_5 := b_194; unfold bd at h9_5; have h8_0 := kb_0; unfold bd at h8_0; have h8_1 := kb_9766; unfold bd at h8_1; omega)⟩, (g.fcts [0, 1] rfl)⟩⟩ ht hW) g.2.2.1.2.2 dX14_eval_214) (fun _ => MQ.toE)
