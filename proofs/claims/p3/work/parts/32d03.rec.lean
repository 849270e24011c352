set_option maxHeartbeats 4000000 in
set_option maxRecDepth 100000 in
theorem r_X14_invoke (N : Nat) (ih : RecN N) (l : Launch) (dC : Nat → ClassId) (dI : Nat → Nat → Nat) (L : List Nat) (kd : Nat → Nat) (tys : List (ClassId × FieldType)) (f0 : Nat → va_E) (sz : Nat) (hWT : WT L kd tys f0) (a0_ : Nat) (ma0_ : a0_ ∈ L) (ka0_ : kd a0_ = 14) (x1_ : Int32) (x2_ : Int32) (q0_ : Nat) (mq0_ : q0_ ∈ L) (kq0_ : kd q0_ = 12) (V_ : PV) (δ_ : Nat → Nat) (hW : wfP V_ δ_) (w_ : Int32) (bw : bd 0 20 w_) (s_ : Int32) (bs : bd 0 300 s_) (Z_ : Nat → Int32) (O_ : Nat → Int32) (hV : isV f0 q0_ V_) (hR : RA f0 a0_ w_ Z_ O_) (bx1_ : bd 0 109 x1_) (bx2_ : bd 0 5 x2_) (hm : ((x1_.toNatClampNeg : Nat) : Int) < (V_.n 27).toInt) (hc : cAt V_ (O_ x2_.toNatClampNeg) (V_.i 18 x1_.toNatClampNeg).toNatClampNeg) (hN : 47 * (20 - w_.toInt) + 1 ≤ ((N + 1 : Nat) : Int)) (hfx : Fs L kd f0 [(14, 1, a0_, .ref q0_), (14, 35, a0_, .int w_), (14, 34, a0_, .int s_)]) : MetE l yX14_invoke (.code yX14_invoke cX14_invoke 4 (some .int) :: lw_g) ({ frames := (N + 1) + 5, cells := 0, slots := 0, locals := 40 * (N + 1) + 300 }) (va_Pc [.ref a0_, .int x1_, .int x2_] (P3 (dC, dI) L tys f0 sz)) (q3E (dC, dI) L kd tys [(14, 31), (14, 32), (14, 33), (14, 34), (14, 35), (14, 39), (14, 40), (14, 45)] [200, 216, 218, 219, 220, 221] f0 sz (pRi (fun (r : Int32) (f : Nat → va_E) => (RA f a0_ w_ Z_ O_ ∧ ∃ z1_ : Int32, (bd 0 300 z1_ ∧ s_.toInt ≤ z1_.toInt) ∧ Fs L kd f [(14, 35, a0_, .int w_), (14, 34, a0_, .int z1_)]))) (fun (f : Nat → va_E) => True)) 0 0 (pA L sz) := by
  refine MetE.ofW (cc := cX14_invoke) (maxL := 4) (ret := (some .int)) (by decide) rfl ?_
  intro p e s m args below meth c s₁ B hml hempty hv
  obtain ⟨rfl, hsz, hP, hK, hD0⟩ := hv
  have hx := B.exec
  have hb := B.bytes
  have hr := B.returns
  have hts := atoms_spec (ws := (.code yX14_invoke cX14_invoke 4 (some .int) :: lw_g)) B.pre
  have hown : s.vm.findClass RX14 = some m.cls := findClass_of_methodNamed B.named
  have hlocks := B.notSynchronized
  subst hsz
  have g : G3 (dC, dI) L kd tys s f0 [(14, 31), (14, 32), (14, 33), (14, 34), (14, 35), (14, 39), (14, 40), (14, 45)] [200, 216, 218, 219, 220, 221] f0 s.heap [] [(14, 1, a0_, .ref q0_), (14, 35, a0_, .int w_), (14, 34, a0_, .int s_)] := G3.start hP hD0 hWT hfx
  have hl := lv_entry ([.ref a0_, .int x1_, .int x2_]) (n := 4) (Nat.le_of_ble_eq_true rfl)
  rw [lg_entry_eq]
  generalize (lg_sl ([.ref a0_, .int x1_, .int x2_]) ++ List.replicate (4 - (lg_sl ([.ref a0_, .int x1_, .int x2_])).length) Slot.unset).toArray = ls at hl ⊢
  have hl : lv_has ls 4 [(0, .ref a0_), (1, .int x1_), (2, .int x2_)] := hl
  refine W_q (fun Q hQ => ?_)
  refine lv_aload_n hx hb dX14_invoke_0 rfl (lv_at hl 0 rfl) ?_
  refine g_getk (C := RX14) (T := TX14) (N := 67) hx hb hts (mc_ inX14) hown hK g rfl 35 (by decide) rfl (hts _ (List.mem_cons_of_mem _ t_2181)) (fun _ h9 => h9) 1 rfl dX14_invoke_1 ?_
  refine lv_bipush (v := 20) hx hb dX14_invoke_4 (by decide) ?_
  have kb_20 : bd 20 20 (20 : Int32) := ⟨by decide, by decide⟩
  refine lv_icmp_ne (tgt := 14) hx hb dX14_invoke_6 (by decide) (fun c_1 => ?_) (fun c_1 => ?_)
  · have fc_1 := neq_f c_1
    have b_2 : bd 0 19 w_ := neX fc_1 bw kb_20 (by decide)
    refine lv_aload_n hx hb dX14_invoke_14 rfl (lv_at hl 0 rfl) ?_
    refine lv_dup hx hb dX14_invoke_15 rfl ?_
    refine g_getk (C := RX14) (T := TX14) (N := 67) hx hb hts (mc_ inX14) hown hK g rfl 35 (by decide) rfl (hts _ (List.mem_cons_of_mem _ t_2181)) (fun _ h9 => h9) 1 rfl dX14_invoke_16 ?_
    refine lv_iconst (v := 1) hx hb dX14_invoke_19 (by decide) ?_
    have kb_1 : bd 1 1 (1 : Int32) := ⟨by decide, by decide⟩
    refine lv_iadd hx hb dX14_invoke_20 ?_
    refine lv_topi (fun y_3 ey_3 => ?_)
    have ty_3 := add_bd ey_3 b_2 kb_1 (by decide)
    have b_4 : bd 1 20 y_3 := add_rg ty_3 b_2 kb_1 (by decide)
    have go_ := g
    refine g_put (C := RX14) (T := TX14) (N := 67) hx hb hts (mc_ inX14) tyX14 tyX14_ok nmX14 hown hK g ma0_ ka0_ (by decide) rfl 35 (by decide) (hts _ (List.mem_cons_of_mem _ t_2181)) (fun _ h9 => h9) rfl rfl (okV_i (bd_sub b_4 (by decide))) rfl rfl (by decide) (Or.inr (Or.inl (by decide))) (fx' := [(14, 1, a0_, .ref q0_), (14, 34, a0_, .int s_)]) rfl dX14_invoke_21 (fun f H locs hM_5 g => ?_)
    have hG_6 := isV.frame hM_5 go_.2.2.2.1 mq0_ kq0_ (by decide) (by decide) hV
    have hG_7 := RA.frame hM_5 go_.2.2.2.1 ma0_ ka0_ (by decide) (by decide) hR
    refine lv_aload_n hx hb dX14_invoke_24 rfl (lv_at hl 0 rfl) ?_
    refine g_getr (K := 220) (C := RX14) (T := TX14) (N := 67) hx hb hts (mc_ inX14) hown hK g ma0_ ka0_ (by decide) rfl 43 (by decide) rfl (hts _ (List.mem_cons_of_mem _ t_2189)) (fun _ h9 => h9) rfl dX14_invoke_25 (fun a_8 ma_8 ka_8 g => ?_)
    refine lv_aload_n hx hb dX14_invoke_28 rfl (lv_at hl 0 rfl) ?_
    refine g_getk (C := RX14) (T := TX14) (N := 67) hx hb hts (mc_ inX14) hown hK g rfl 35 (by decide) rfl (hts _ (List.mem_cons_of_mem _ t_2181)) (fun _ h9 => h9) 1 rfl dX14_invoke_29 ?_
    refine lv_iload_n hx hb dX14_invoke_32 rfl (lv_at hl 2 rfl) ?_
    have gp_9 := g
    have go_ := g
    refine g_iastX hx hb hK g ma_8 ka_8 (by decide) rfl (in_bd b_4 (by decide)) bx2_ (by decide) dX14_invoke_33 (fun f H locs hM_10 u_12 g => ?_)
    have hG_11 := isV.frame hM_10 go_.2.2.2.1 mq0_ kq0_ (by decide) (by decide) hG_6
    have hG_13 := RA.push hG_7 gp_9 0 rfl ma0_ ka0_ ka_8 u_12 bw.1 (by have h9_0 := bs; unfold bd at h9_0; have h9_1 := b_2; unfold bd at h9_1; have h9_2 := bx1_; unfold bd at h9_2; have h9_3 := bx2_; unfold bd at h9_3; have h9_4 := b_4; unfold bd at h9_4; have h8_0 := kb_1; unfold bd at h8_0; have h8_1 := kb_20; unfold bd at h8_1; omega)
    refine lv_aload_n hx hb dX14_invoke_34 rfl (lv_at hl 0 rfl) ?_
    refine lv_iconst (v := 0) hx hb dX14_invoke_35 (by decide) ?_
    have kb_0 : bd 0 0 (0 : Int32) := ⟨by decide, by decide⟩
    have go_ := g
    refine g_put (C := RX14) (T := TX14) (N := 67) hx hb hts (mc_ inX14) tyX14 tyX14_ok nmX14 hown hK g ma0_ ka0_ (by decide) rfl 45 (by decide) (hts _ (List.mem_cons_of_mem _ t_2191)) (fun _ h9 => h9) rfl rfl (okV_i (bd_sub kb_0 (by decide))) rfl rfl (by decide) (Or.inr (Or.inl (by decide))) (fx' := [(14, 43, a0_, .ref a_8), (14, 35, a0_, .int y_3), (14, 1, a0_, .ref q0_), (14, 34, a0_, .int s_)]) rfl dX14_invoke_36 (fun f H locs hM_14 g => ?_)
    have hG_15 := isV.frame hM_14 go_.2.2.2.1 mq0_ kq0_ (by decide) (by decide) hG_11
    have hG_16 := RA.frame hM_14 go_.2.2.2.1 ma0_ ka0_ (by decide) (by decide) hG_13
    refine lv_aload_n hx hb dX14_invoke_39 rfl (lv_at hl 0 rfl) ?_
    refine g_getr (K := 221) (C := RX14) (T := TX14) (N := 67) hx hb hts (mc_ inX14) hown hK g ma0_ ka0_ (by decide) rfl 44 (by decide) rfl (hts _ (List.mem_cons_of_mem _ t_2190)) (fun _ h9 => h9) rfl dX14_invoke_40 (fun a_17 ma_17 ka_17 g => ?_)
    refine lv_aload_n hx hb dX14_invoke_43 rfl (lv_at hl 0 rfl) ?_
    refine g_getk (C := RX14) (T := TX14) (N := 67) hx hb hts (mc_ inX14) hown hK g rfl 35 (by decide) rfl (hts _ (List.mem_cons_of_mem _ t_2181)) (fun _ h9 => h9) 3 rfl dX14_invoke_44 ?_
    refine lv_iconst (v := 0) hx hb dX14_invoke_47 (by decide) ?_
    have go_ := g
    refine g_iast hx hb hK g ma_17 ka_17 (by decide) rfl (in_bd b_4 (by decide)) (bd_sub kb_0 (by decide)) (by decide) dX14_invoke_48 (fun f H locs hM_18 g => ?_)
    have hG_19 := isV.frame hM_18 go_.2.2.2.1 mq0_ kq0_ (by decide) (by decide) hG_15
    have hG_20 := RA.frame hM_18 go_.2.2.2.1 ma0_ ka0_ (by decide) (by decide) hG_16
    refine lv_aload_n hx hb dX14_invoke_49 rfl (lv_at hl 0 rfl) ?_
    refine lv_aload_n hx hb dX14_invoke_50 rfl (lv_at hl 0 rfl) ?_
    refine g_getk (C := RX14) (T := TX14) (N := 67) hx hb hts (mc_ inX14) hown hK g rfl 1 (by decide) rfl (hts _ (List.mem_cons_of_mem _ t_2147)) (fun _ h9 => h9) 4 rfl dX14_invoke_51 ?_
    refine g_getr (K := 179) (C := RX12) (T := TX12) (N := 60) hx hb hts (mc_ inX12) hown hK g mq0_ kq0_ (by decide) rfl 23 (by decide) rfl (hts _ (List.mem_cons_of_mem _ t_1952)) (fun _ h9 => h9) rfl dX14_invoke_54 (fun a_21 ma_21 ka_21 g => ?_)
    refine lv_iload_n hx hb dX14_invoke_57 rfl (lv_at hl 1 rfl) ?_
    refine g_iald hx hb hK g ma_21 ka_21 (by decide) rfl (in_bd bx1_ (by decide)) dX14_invoke_58 (fun x_22 bx_22 cx_22 => ?_)
    have vx_22 : x_22 = V_.i 23 x1_.toNatClampNeg := hG_19.at g 0 rfl rfl cx_22
    have go_ := g
    refine g_callEv (As := [.int x_22]) (rest := []) ⟨hx, hb, hml, hown, hts⟩ (ih.2.2.2.2.1 l dC dI L kd tys f H.size g.2.2.2.1 a0_ ma0_ ka0_ x_22 q0_ mq0_ kq0_ V_ δ_ hW y_3 (bd_sub b_4 (by decide)) s_ bs (fun j => if j = y_3.toNatClampNeg then x2_ else Z_ j) O_ hG_19 hG_20 (V_.i 18 x1_.toNatClampNeg).toNatClampNeg (lev_top hc) 1 x1_.toNatClampNeg (mem_blk hW hm vx_22) rfl (by decide) (by have hN9 := hN; have bw9 := bw; unfold bd at bw9; have h9_0 := bs; unfold bd at h9_0; have h9_1 := b_2; unfold bd at h9_1; have h9_2 := bx1_; unfold bd at h9_2; have h9_3 := bx2_; unfold bd at h9_3; have h9_4 := b_4; unfold bd at h9_4; have h8_0 := kb_0; unfold bd at h8_0; have h8_1 := kb_1; unfold bd at h8_1; have h8_2 := kb_20; unfold bd at h8_2; omega) (g.fcts [5, 4, 6] rfl)) (cwV 1 hts (gV_ t_2667 t_2669 t_154 t_198 t_2670) rfl rfl rfl (by decide +kernel) ⟨(show N + 5 + 1 ≤ N + 1 + 5 by omega), (show 8 + (3 + 11) + (40 * N + 300) ≤ 40 * (N + 1) + 300 by omega)⟩) (pre3V g hK ma0_ ka0_ (by decide) (q := (RX14, TX14, 67)) rfl) rfl hl.1 rfl (lv_room (Nat.le_of_ble_eq_true rfl)) dX14_invoke_59 ⟨(Nat.le_of_ble_eq_true rfl), (Nat.le_of_ble_eq_true rfl)⟩ g hK (by decide) (by decide) (fx' := [(12, 23, q0_, .ref a_21), (14, 44, a0_, .ref a_17), (14, 43, a0_, .ref a_8), (14, 1, a0_, .ref q0_)]) rfl (fun xr_23 fr_23 H locs mxr_23 kxr_23 hp hMr_23 g => ?_) (fun fr_23 H locs hp hMr_23 g => ?_)
    · have hG_24 := isV.frame hMr_23 go_.2.2.2.1 mq0_ kq0_ (by decide) (by decide) hG_19
      subst hQ
      exact WX.leaves hempty hlocks (fun t ht hW => g_thrE g hK mxr_23 kxr_23 trivial ht hW) g.2.2.1.2.2
    · obtain ⟨hG_25, x_26, ⟨h_27, rh_27⟩, hF_28⟩ := hp
      have hG_29 := isV.frame hMr_23 go_.2.2.2.1 mq0_ kq0_ (by decide) (by decide) hG_19
      have g := g.more hF_28
      refine lv_aload_n hx hb dX14_invoke_62 rfl (lv_at hl 0 rfl) ?_
      refine g_getk (C := RX14) (T := TX14) (N := 67) hx hb hts (mc_ inX14) hown hK g rfl 44 (by decide) rfl (hts _ (List.mem_cons_of_mem _ t_2190)) (fun _ h9 => h9) 3 rfl dX14_invoke_63 ?_
      refine lv_aload_n hx hb dX14_invoke_66 rfl (lv_at hl 0 rfl) ?_
      refine g_getk (C := RX14) (T := TX14) (N := 67) hx hb hts (mc_ inX14) hown hK g rfl 35 (by decide) rfl (hts _ (List.mem_cons_of_mem _ t_2181)) (fun _ h9 => h9) 0 rfl dX14_invoke_67 ?_
      refine g_iald hx hb hK g ma_17 ka_17 (by decide) rfl (in_bd b_4 (by decide)) dX14_invoke_70 (fun x_30 bx_30 cx_30 => ?_)
      refine lv_istore_n (lv' := [(3, .int x_30), (0, .ref a0_), (1, .int x1_), (2, .int x2_)]) hx hb dX14_invoke_71 rfl hl (by decide) rfl (fun ls hl => ?_)
      refine lv_aload_n hx hb dX14_invoke_72 rfl (lv_at hl 1 rfl) ?_
      refine lv_dup hx hb dX14_invoke_73 rfl ?_
      refine g_getk (C := RX14) (T := TX14) (N := 67) hx hb hts (mc_ inX14) hown hK g rfl 35 (by decide) rfl (hts _ (List.mem_cons_of_mem _ t_2181)) (fun _ h9 => h9) 0 rfl dX14_invoke_74 ?_
      refine lv_iconst (v := 1) hx hb dX14_invoke_77 (by decide) ?_
      refine lv_isub hx hb dX14_invoke_78 ?_
      refine lv_topi (fun y_31 ey_31 => ?_)
      obtain rfl : w_ = y_31 := add_sub_c ey_3 ey_31
      have go_ := g
      refine g_put (C := RX14) (T := TX14) (N := 67) hx hb hts (mc_ inX14) tyX14 tyX14_ok nmX14 hown hK g ma0_ ka0_ (by decide) rfl 35 (by decide) (hts _ (List.mem_cons_of_mem _ t_2181)) (fun _ h9 => h9) rfl rfl (okV_i (bd_sub b_2 (by decide))) rfl rfl (by decide) (Or.inr (Or.inl (by decide))) (fx' := [(14, 34, a0_, .int x_26), (12, 23, q0_, .ref a_21), (14, 44, a0_, .ref a_17), (14, 43, a0_, .ref a_8), (14, 1, a0_, .ref q0_)]) rfl dX14_invoke_79 (fun f H locs hM_32 g => ?_)
      have hG_33 := isV.frame hM_32 go_.2.2.2.1 mq0_ kq0_ (by decide) (by decide) hG_29
      have hG_34 := RA.frame hM_32 go_.2.2.2.1 ma0_ ka0_ (by decide) (by decide) hG_25
      refine lv_aload_n hx hb dX14_invoke_82 rfl (lv_at hl 1 rfl) ?_
      refine lv_iconst (v := 0) hx hb dX14_invoke_83 (by decide) ?_
      have go_ := g
      refine g_put (C := RX14) (T := TX14) (N := 67) hx hb hts (mc_ inX14) tyX14 tyX14_ok nmX14 hown hK g ma0_ ka0_ (by decide) rfl 45 (by decide) (hts _ (List.mem_cons_of_mem _ t_2191)) (fun _ h9 => h9) rfl rfl (okV_i (bd_sub kb_0 (by decide))) rfl rfl (by decide) (Or.inr (Or.inl (by decide))) (fx' := [(14, 35, a0_, .int w_), (14, 34, a0_, .int x_26), (12, 23, q0_, .ref a_21), (14, 44, a0_, .ref a_17), (14, 43, a0_, .ref a_8), (14, 1, a0_, .ref q0_)]) rfl dX14_invoke_84 (fun f H locs hM_35 g => ?_)
      have hG_36 := isV.frame hM_35 go_.2.2.2.1 mq0_ kq0_ (by decide) (by decide) hG_33
      have hG_37 := RA.frame hM_35 go_.2.2.2.1 ma0_ ka0_ (by decide) (by decide) hG_34
      refine lv_iload_n hx hb dX14_invoke_87 rfl (lv_at hl 0 rfl) ?_
      have hG_38 := RA.pop hG_37 bw.1 (by have h9_0 := bs; unfold bd at h9_0; have h9_1 := b_2; unfold bd at h9_1; have h9_2 := bx1_; unfold bd at h9_2; have h9_3 := bx2_; unfold bd at h9_3; have h9_4 := h_27; unfold bd at h9_4; have h9_5 := b_4; unfold bd at h9_5; have h8_0 := kb_0; unfold bd at h8_0; have h8_1 := kb_1; unfold bd at h8_1; have h8_2 := kb_20; unfold bd at h8_2; omega)
      subst hQ
      exact W.thenQ (W.iret (v := x_30) hx hb hr (fun t ht hW => g_retE g hK ⟨_, rfl, ⟨hG_38, x_26, ⟨h_27, (by have h9_0 := bs; unfold bd at h9_0; have h9_1 := b_2; unfold bd at h9_1; have h9_2 := bx1_; unfold bd at h9_2; have h9_3 := bx2_; unfold bd at h9_3; have h9_4 := h_27; unfold bd at h9_4; have h9_5 := b_4; unfold bd at h9_5; have h8_0 := kb_0; unfold bd at h8_0; have h8_1 := kb_1; unfold bd at h8_1; have h8_2 := kb_20; unfold bd at h8_2; omega)⟩, (g.fcts [1, 2] rfl)⟩⟩ ht hW) g.2.2.1.2.2 dX14_invoke_88) (fun _ => MQ.toE)
  · have fc_1 := eq_f c_1
    have b_39 : bd 20 20 w_ := eqX fc_1 bw kb_20 (by decide)
    refine lv_aload_n hx hb dX14_invoke_9 rfl (lv_at hl 0 rfl) ?_
    refine lv_iconst (v := 2) hx hb dX14_invoke_10 (by decide) ?_
    have go_ := g
    refine g_callEv (As := [.int 2]) (rest := []) ⟨hx, hb, hml, hown, hts⟩ (r_X14_ends l dC dI L kd tys f0 s.heap.size g.2.2.2.1 a0_ ma0_ ka0_ 2) (cwV 1 hts (gV_ t_2651 t_2653 t_150 t_198 t_2654) rfl rfl rfl (by decide +kernel) ⟨(show 0 + 1 ≤ N + 1 + 5 by omega), (show 8 + (2 + 11) + 0 ≤ 40 * (N + 1) + 300 by omega)⟩) (pre3V g hK ma0_ ka0_ (by decide) (q := (RX14, TX14, 67)) rfl) rfl hl.1 rfl (lv_room (Nat.le_of_ble_eq_true rfl)) dX14_invoke_11 ⟨(Nat.le_of_ble_eq_true rfl), (Nat.le_of_ble_eq_true rfl)⟩ g hK (by decide) (by decide) (fx' := [(14, 1, a0_, .ref q0_), (14, 35, a0_, .int w_), (14, 34, a0_, .int s_)]) rfl (fun xr_40 fr_40 H locs mxr_40 kxr_40 hp hMr_40 g => ?_) (fun fr_40 H locs hp hMr_40 g => ?_)
    · have hG_41 := isV.frame hMr_40 go_.2.2.2.1 mq0_ kq0_ (by decide) (by decide) hV
      have hG_42 := RA.frame hMr_40 go_.2.2.2.1 ma0_ ka0_ (by decide) (by decide) hR
      subst hQ
      exact WX.leaves hempty hlocks (fun t ht hW => g_thrE g hK mxr_40 kxr_40 trivial ht hW) g.2.2.1.2.2
    · exact hp.elim
set_option maxHeartbeats 4000000 in
set_option maxRecDepth 100000 in
theorem r_X14_runBlock (N : Nat) (ih : RecN N) (l : Launch) (dC : Nat → ClassId) (dI : Nat → Nat → Nat) (L : List Nat) (kd : Nat → Nat) (tys : List (ClassId × FieldType)) (f0 : Nat → va_E) (sz : Nat) (hWT : WT L kd tys f0) (a0_ : Nat) (ma0_ : a0_ ∈ L) (ka0_ : kd a0_ = 14) (x1_ : Int32) (q0_ : Nat) (mq0_ : q0_ ∈ L) (kq0_ : kd q0_ = 12) (V_ : PV) (δ_ : Nat → Nat) (hW : wfP V_ δ_) (w_ : Int32) (bw : bd 0 20 w_) (s_ : Int32) (bs : bd 0 300 s_) (Z_ : Nat → Int32) (O_ : Nat → Int32) (hV : isV f0 q0_ V_) (hR : RA f0 a0_ w_ Z_ O_) (d_ : Nat) (hcl : cAt V_ (O_ (Z_ w_.toNatClampNeg).toNatClampNeg) d_) (b_ : Nat) (m_ : Nat) (hS : TS V_ δ_ x1_ b_ m_) (hd : (V_.i 18 m_).toNatClampNeg = d_) (hb9 : b_ ≤ 9) (hN : 47 * (20 - w_.toInt) + 47 - 2 * (b_ : Int) ≤ ((N + 1 : Nat) : Int)) (hfx : Fs L kd f0 [(14, 1, a0_, .ref q0_), (14, 35, a0_, .int w_), (14, 34, a0_, .int s_)]) : MetE l yX14_runBlock (.code yX14_runBlock cX14_runBlock 3 none :: lw_g) ({ frames := (N + 1) + 5, cells := 0, slots := 0, locals := 40 * (N + 1) + 300 }) (va_Pc [.ref a0_, .int x1_] (P3 (dC, dI) L tys f0 sz)) (q3E (dC, dI) L kd tys [(14, 31), (14, 32), (14, 33), (14, 34), (14, 35), (14, 39), (14, 40), (14, 45)] [200, 216, 218, 219, 220, 221] f0 sz (pRv (fun (f : Nat → va_E) => (RA f a0_ w_ Z_ O_ ∧ ∃ z1_ : Int32, (bd 0 300 z1_ ∧ s_.toInt ≤ z1_.toInt) ∧ Fs L kd f [(14, 35, a0_, .int w_), (14, 34, a0_, .int z1_)]))) (fun (f : Nat → va_E) => True)) 0 0 (pA L sz) := by
  refine MetE.ofW (cc := cX14_runBlock) (maxL := 3) (ret := none) (by decide) rfl ?_
  intro p e s m args below meth c s₁ B hml hempty hv
  obtain ⟨rfl, hsz, hP, hK, hD0⟩ := hv
  have hx := B.exec
  have hb := B.bytes
  have hr := B.returns
  have hts := atoms_spec (ws := (.code yX14_runBlock cX14_runBlock 3 none :: lw_g)) B.pre
  have hown : s.vm.findClass RX14 = some m.cls := findClass_of_methodNamed B.named
  have hlocks := B.notSynchronized
  subst hsz
  have g : G3 (dC, dI) L kd tys s f0 [(14, 31), (14, 32), (14, 33), (14, 34), (14, 35), (14, 39), (14, 40), (14, 45)] [200, 216, 218, 219, 220, 221] f0 s.heap [] [(14, 1, a0_, .ref q0_), (14, 35, a0_, .int w_), (14, 34, a0_, .int s_)] := G3.start hP hD0 hWT hfx
  have hl := lv_entry ([.ref a0_, .int x1_]) (n := 3) (Nat.le_of_ble_eq_true rfl)
  rw [lg_entry_eq]
  generalize (lg_sl ([.ref a0_, .int x1_]) ++ List.replicate (3 - (lg_sl ([.ref a0_, .int x1_])).length) Slot.unset).toArray = ls at hl ⊢
  have hl : lv_has ls 3 [(0, .ref a0_), (1, .int x1_)] := hl
  refine W_q (fun Q hQ => ?_)
  refine lv_iload_n hx hb dX14_runBlock_0 rfl (lv_at hl 1 rfl) ?_
  refine lv_istore_n (lv' := [(2, .int x1_), (0, .ref a0_), (1, .int x1_)]) hx hb dX14_runBlock_1 rfl hl (by decide) rfl (fun ls hl => ?_)
  have loop_1 : ∀ (n : Nat) (v2_2 : Int32) (w2_14_34_a0_ : Int32), bd 0 300 w2_14_34_a0_ → (300 - w2_14_34_a0_.toInt < (n : Int)) → ∀ (f : Nat → va_E) (H : Heap) (locs : List Loc) (ls : Array Slot), G3 (dC, dI) L kd tys s f0 [(14, 31), (14, 32), (14, 33), (14, 34), (14, 35), (14, 39), (14, 40), (14, 45)] [200, 216, 218, 219, 220, 221] f H locs [(14, 1, a0_, .ref q0_), (14, 35, a0_, .int w_), (14, 34, a0_, .int w2_14_34_a0_)] → isV f q0_ V_ → RA f a0_ w_ Z_ O_ → (TS V_ δ_ v2_2 b_ m_ ∧ s_.toInt ≤ w2_14_34_a0_.toInt) → lv_has ls 3 [(2, .int v2_2), (0, .ref a0_), (1, .int x1_)] → W p l e ({ frames := (N + 1) + 5, cells := 0, slots := 0, locals := 40 * (N + 1) + 300 } : Room) s m [.ref a0_, .int x1_].toArray below meth c H locs 0 0 Q (F0 m 2 ls []) := by
    intro n2
    induction n2 with
    | zero =>
      intro v2_2 w2_14_34_a0_  bw2_14_34_a0_ hm2 f H locs ls g hG2_V_q0_ hG2_R_a0_ ⟨hI2, hJ2⟩ hl
      exact absurd hm2 (by have h9_v2_2 := bdT v2_2; unfold bd at h9_v2_2; have h9_w2_14_34_a0_ := bw2_14_34_a0_; unfold bd at h9_w2_14_34_a0_; omega)
    | succ n2 ih2 =>
      intro v2_2 w2_14_34_a0_  bw2_14_34_a0_ hm2 f H locs ls g hG2_V_q0_ hG2_R_a0_ ⟨hI2, hJ2⟩ hl
      refine lv_iload_n hx hb dX14_runBlock_2 rfl (lv_at hl 0 rfl) ?_
      refine lv_iconst (v := (-1)) hx hb dX14_runBlock_3 (by decide) ?_
      have kb_m1 : bd (-1) (-1) ((-1) : Int32) := ⟨by decide, by decide⟩
      refine lv_icmp_eq (tgt := 32) hx hb dX14_runBlock_4 (by decide) (fun c_2 => ?_) (fun c_2 => ?_)
      · have fc_2 := eq_f c_2
        have b_3 : bd (-1) (-1) v2_2 := eqX fc_2 (bdT v2_2) kb_m1 (by decide)
        subst hQ
        exact W.thenQ (W.vret hx hb hr (fun t ht hW => g_retE g hK ⟨rfl, ⟨hG2_R_a0_, w2_14_34_a0_, ⟨bw2_14_34_a0_, (by have h9_0 := bs; unfold bd at h9_0; have h9_1 := b_3; unfold bd at h9_1; have h9_2 := bw2_14_34_a0_; unfold bd at h9_2; have h9_3 := bw; unfold bd at h9_3; have h8_0 := kb_m1; unfold bd at h8_0; omega)⟩, (g.fcts [1, 2] rfl)⟩⟩ ht hW) g.2.2.1.2.2 dX14_runBlock_32) (fun _ => MQ.toE)
      · have fc_2 := neq_f c_2
        refine lv_aload_n hx hb dX14_runBlock_7 rfl (lv_at hl 1 rfl) ?_
        refine g_geti (C := RX14) (T := TX14) (N := 67) hx hb hts (mc_ inX14) hown hK g ma0_ ka0_ (by decide) rfl 45 (by decide) rfl (hts _ (List.mem_cons_of_mem _ t_2191)) (fun _ h9 => h9) rfl dX14_runBlock_8 (fun x_4 bx_4 g => ?_)
        have kb_0 : bd 0 0 (0 : Int32) := ⟨by decide, by decide⟩
        refine lv_if_ne (tgt := 32) hx hb dX14_runBlock_11 (by decide) (fun c_5 => ?_) (fun c_5 => ?_)
        · have fc_5 := neq_f c_5
          have b_6 : bd 1 1 x_4 := neX fc_5 bx_4 kb_0 (by decide)
          subst hQ
          exact W.thenQ (W.vret hx hb hr (fun t ht hW => g_retE g hK ⟨rfl, ⟨hG2_R_a0_, w2_14_34_a0_, ⟨bw2_14_34_a0_, (by have h9_0 := bs; unfold bd at h9_0; have h9_1 := bw2_14_34_a0_; unfold bd at h9_1; have h9_2 := bw; unfold bd at h9_2; have h9_3 := b_6; unfold bd at h9_3; have h8_0 := kb_0; unfold bd at h8_0; have h8_1 := kb_m1; unfold bd at h8_1; omega)⟩, (g.fcts [2, 3] rfl)⟩⟩ ht hW) g.2.2.1.2.2 dX14_runBlock_32) (fun _ => MQ.toE)
        · have fc_5 := eq_f c_5
          have b_7 : bd 0 0 x_4 := eqX fc_5 bx_4 kb_0 (by decide)
          refine lv_aload_n hx hb dX14_runBlock_14 rfl (lv_at hl 1 rfl) ?_
          refine lv_iload_n hx hb dX14_runBlock_15 rfl (lv_at hl 0 rfl) ?_
          have b_8 : bd 0 699 v2_2 := SS.bd hW (TS.ss hI2 fc_2 hd)
          have go_ := g
          refine g_callEv (As := [.int v2_2]) (rest := []) ⟨hx, hb, hml, hown, hts⟩ (ih.2.2.2.2.2.1 l dC dI L kd tys f H.size g.2.2.2.1 a0_ ma0_ ka0_ v2_2 q0_ mq0_ kq0_ V_ δ_ hW w_ bw w2_14_34_a0_ bw2_14_34_a0_ Z_ O_ hG2_V_q0_ hG2_R_a0_ d_ hcl b_ m_ (TS.ss hI2 fc_2 hd) (by have hN9 := hN; have bw9 := bw; unfold bd at bw9; omega) (g.fcts [1, 2, 3] rfl)) (cwV 1 hts (gV_ t_2671 t_2673 t_155 t_198 t_2674) rfl rfl rfl (by decide +kernel) ⟨(show N + 5 + 1 ≤ N + 1 + 5 by omega), (show 8 + (3 + 11) + (40 * N + 300) ≤ 40 * (N + 1) + 300 by omega)⟩) (pre3V g hK ma0_ ka0_ (by decide) (q := (RX14, TX14, 67)) rfl) rfl hl.1 rfl (lv_room (Nat.le_of_ble_eq_true rfl)) dX14_runBlock_16 ⟨(Nat.le_of_ble_eq_true rfl), (Nat.le_of_ble_eq_true rfl)⟩ g hK (by decide) (by decide) (fx' := [(14, 1, a0_, .ref q0_)]) rfl (fun xr_9 fr_9 H locs mxr_9 kxr_9 hp hMr_9 g => ?_) (fun fr_9 H locs hp hMr_9 g => ?_)
          · have hG_10 := isV.frame hMr_9 go_.2.2.2.1 mq0_ kq0_ (by decide) (by decide) hG2_V_q0_
            subst hQ
            exact WX.leaves hempty hlocks (fun t ht hW => g_thrE g hK mxr_9 kxr_9 trivial ht hW) g.2.2.1.2.2
          · obtain ⟨hG_11, x_12, ⟨h_13, rh_13⟩, hF_14⟩ := hp
            have hG_15 := isV.frame hMr_9 go_.2.2.2.1 mq0_ kq0_ (by decide) (by decide) hG2_V_q0_
            have g := g.more hF_14
            refine lv_aload_n hx hb dX14_runBlock_19 rfl (lv_at hl 1 rfl) ?_
            refine g_getk (C := RX14) (T := TX14) (N := 67) hx hb hts (mc_ inX14) hown hK g rfl 1 (by decide) rfl (hts _ (List.mem_cons_of_mem _ t_2147)) (fun _ h9 => h9) 2 rfl dX14_runBlock_20 ?_
            refine g_getr (K := 196) (C := RX12) (T := TX12) (N := 60) hx hb hts (mc_ inX12) hown hK g mq0_ kq0_ (by decide) rfl 41 (by decide) rfl (hts _ (List.mem_cons_of_mem _ t_1987)) (fun _ h9 => h9) rfl dX14_runBlock_23 (fun a_16 ma_16 ka_16 g => ?_)
            refine lv_iload_n hx hb dX14_runBlock_26 rfl (lv_at hl 0 rfl) ?_
            refine g_iald hx hb hK g ma_16 ka_16 (by decide) rfl (in_bd b_8 (by decide)) dX14_runBlock_27 (fun x_17 bx_17 cx_17 => ?_)
            have vx_17 : x_17 = V_.i 41 v2_2.toNatClampNeg := hG_15.at g 0 rfl rfl cx_17
            refine lv_istore_n (lv' := [(2, .int x_17), (0, .ref a0_), (1, .int x1_)]) hx hb dX14_runBlock_28 rfl hl (by decide) rfl (fun ls hl => ?_)
            refine lv_goto (tgt := 2) hx hb dX14_runBlock_29 (by decide) ?_
            have hl9 := lv_sub hl [0, 1, 2] (by rfl : lv_pick [(2, .int x_17), (0, .ref a0_), (1, .int x1_)] [0, 1, 2] = [(2, .int x_17), (0, .ref a0_), (1, .int x1_)])
            have g9 := g.sub (fx' := [(14, 1, a0_, .ref q0_), (14, 35, a0_, .int w_), (14, 34, a0_, .int x_12)]) [3, 1, 2] rfl
            exact ih2  x_17 x_12 h_13 (by have h9_0 := bdT v2_2; unfold bd at h9_0; have h9_1 := bdT x_17; unfold bd at h9_1; have h9_2 := bw2_14_34_a0_; unfold bd at h9_2; have h9_3 := h_13; unfold bd at h9_3; have h9_4 := kb_0; unfold bd at h9_4; have h9_5 := kb_m1; unfold bd at h9_5; omega) _ _ _ _ g9 hG_15 hG_11 ⟨(ss_next hW (TS.ss hI2 fc_2 hd) vx_17), (by omega)⟩ hl9
  have hl9 := lv_sub hl [0, 1, 2] (by rfl : lv_pick [(2, .int x1_), (0, .ref a0_), (1, .int x1_)] [0, 1, 2] = [(2, .int x1_), (0, .ref a0_), (1, .int x1_)])
  have g9 := g.sub (fx' := [(14, 1, a0_, .ref q0_), (14, 35, a0_, .int w_), (14, 34, a0_, .int s_)]) [0, 1, 2] rfl
  exact loop_1 (302) x1_ s_ bs (by have h9_0 := bdT x1_; unfold bd at h9_0; have h9_1 := bs; unfold bd at h9_1; omega) _ _ _ _ g9 hV hR ⟨hS, Int.le_refl _⟩ hl9
set_option maxHeartbeats 4000000 in
set_option maxRecDepth 100000 in
theorem r_X14_runStatement (N : Nat) (ih : RecN N) (l : Launch) (dC : Nat → ClassId) (dI : Nat → Nat → Nat) (L : List Nat) (kd : Nat → Nat) (tys : List (ClassId × FieldType)) (f0 : Nat → va_E) (sz : Nat) (hWT : WT L kd tys f0) (a0_ : Nat) (ma0_ : a0_ ∈ L) (ka0_ : kd a0_ = 14) (x1_ : Int32) (q0_ : Nat) (mq0_ : q0_ ∈ L) (kq0_ : kd q0_ = 12) (V_ : PV) (δ_ : Nat → Nat) (hW : wfP V_ δ_) (w_ : Int32) (bw : bd 0 20 w_) (s_ : Int32) (bs : bd 0 300 s_) (Z_ : Nat → Int32) (O_ : Nat → Int32) (hV : isV f0 q0_ V_) (hR : RA f0 a0_ w_ Z_ O_) (d_ : Nat) (hcl : cAt V_ (O_ (Z_ w_.toNatClampNeg).toNatClampNeg) d_) (b_ : Nat) (m_ : Nat) (hS : SS V_ δ_ x1_ b_ m_ d_) (hN : 47 * (20 - w_.toInt) + 46 - 2 * (b_ : Int) ≤ ((N + 1 : Nat) : Int)) (hfx : Fs L kd f0 [(14, 1, a0_, .ref q0_), (14, 35, a0_, .int w_), (14, 34, a0_, .int s_)]) : MetE l yX14_runStatement (.code yX14_runStatement cX14_runStatement 3 none :: lw_g) ({ frames := (N + 1) + 5, cells := 0, slots := 0, locals := 40 * (N + 1) + 300 }) (va_Pc [.ref a0_, .int x1_] (P3 (dC, dI) L tys f0 sz)) (q3E (dC, dI) L kd tys [(14, 31), (14, 32), (14, 33), (14, 34), (14, 35), (14, 39), (14, 40), (14, 45)] [200, 216, 218, 219, 220, 221] f0 sz (pRv (fun (f : Nat → va_E) => (RA f a0_ w_ Z_ O_ ∧ ∃ z1_ : Int32, (bd 0 300 z1_ ∧ s_.toInt + 1 ≤ z1_.toInt) ∧ Fs L kd f [(14, 35, a0_, .int w_), (14, 34, a0_, .int z1_)]))) (fun (f : Nat → va_E) => True)) 0 0 (pA L sz) := by
  refine MetE.ofW (cc := cX14_runStatement) (maxL := 3) (ret := none) (by decide) rfl ?_
  intro p e s m args below meth c s₁ B hml hempty hv
  obtain ⟨rfl, hsz, hP, hK, hD0⟩ := hv
  have hx := B.exec
  have hb := B.bytes
  have hr := B.returns
  have hts := atoms_spec (ws := (.code yX14_runStatement cX14_runStatement 3 none :: lw_g)) B.pre
  have hown : s.vm.findClass RX14 = some m.cls := findClass_of_methodNamed B.named
  have hlocks := B.notSynchronized
  subst hsz
  have g : G3 (dC, dI) L kd tys s f0 [(14, 31), (14, 32), (14, 33), (14, 34), (14, 35), (14, 39), (14, 40), (14, 45)] [200, 216, 218, 219, 220, 221] f0 s.heap [] [(14, 1, a0_, .ref q0_), (14, 35, a0_, .int w_), (14, 34, a0_, .int s_)] := G3.start hP hD0 hWT hfx
  have hl := lv_entry ([.ref a0_, .int x1_]) (n := 3) (Nat.le_of_ble_eq_true rfl)
  rw [lg_entry_eq]
  generalize (lg_sl ([.ref a0_, .int x1_]) ++ List.replicate (3 - (lg_sl ([.ref a0_, .int x1_])).length) Slot.unset).toArray = ls at hl ⊢
  have hl : lv_has ls 3 [(0, .ref a0_), (1, .int x1_)] := hl
  refine W_q (fun Q hQ => ?_)
  have b_1 : bd 0 699 x1_ := SS.bd hW hS
  refine lv_aload_n hx hb dX14_runStatement_0 rfl (lv_at hl 0 rfl) ?_
  have go_ := g
  refine g_callEv (As := []) (rest := []) ⟨hx, hb, hml, hown, hts⟩ (r_X14_stepN l dC dI L kd tys f0 s.heap.size g.2.2.2.1 a0_ ma0_ ka0_ s_ bs (g.fcts [2] rfl)) (cwV 0 hts (gV_ t_2659 t_2661 t_152 t_198 t_2662) rfl rfl rfl (by decide +kernel) ⟨(show 1 + 1 ≤ N + 1 + 5 by omega), (show 8 + (1 + 11) + 21 ≤ 40 * (N + 1) + 300 by omega)⟩) (pre3V g hK ma0_ ka0_ (by decide) (q := (RX14, TX14, 67)) rfl) rfl hl.1 rfl (lv_room (Nat.le_of_ble_eq_true rfl)) dX14_runStatement_1 ⟨(Nat.le_of_ble_eq_true rfl), (Nat.le_of_ble_eq_true rfl)⟩ g hK (by decide) (by decide) (fx' := [(14, 1, a0_, .ref q0_), (14, 35, a0_, .int w_)]) rfl (fun xr_2 fr_2 H locs mxr_2 kxr_2 hp hMr_2 g => ?_) (fun fr_2 H locs hp hMr_2 g => ?_)
  · have hG_3 := isV.frame hMr_2 go_.2.2.2.1 mq0_ kq0_ (by decide) (by decide) hV
    have hG_4 := RA.frame hMr_2 go_.2.2.2.1 ma0_ ka0_ (by decide) (by decide) hR
    subst hQ
    exact WX.leaves hempty hlocks (fun t ht hW => g_thrE g hK mxr_2 kxr_2 trivial ht hW) g.2.2.1.2.2
  · obtain ⟨x_5, ⟨h_6, rh_6⟩, hF_7⟩ := hp
    have hG_8 := isV.frame hMr_2 go_.2.2.2.1 mq0_ kq0_ (by decide) (by decide) hV
    have hG_9 := RA.frame hMr_2 go_.2.2.2.1 ma0_ ka0_ (by decide) (by decide) hR
    have g := g.more hF_7
    refine lv_aload_n hx hb dX14_runStatement_4 rfl (lv_at hl 0 rfl) ?_
    refine g_getk (C := RX14) (T := TX14) (N := 67) hx hb hts (mc_ inX14) hown hK g rfl 1 (by decide) rfl (hts _ (List.mem_cons_of_mem _ t_2147)) (fun _ h9 => h9) 1 rfl dX14_runStatement_5 ?_
    refine g_getr (K := 200) (C := RX12) (T := TX12) (N := 60) hx hb hts (mc_ inX12) hown hK g mq0_ kq0_ (by decide) rfl 45 (by decide) rfl (hts _ (List.mem_cons_of_mem _ t_1995)) (fun _ h9 => h9) rfl dX14_runStatement_8 (fun a_10 ma_10 ka_10 g => ?_)
    refine lv_iload_n hx hb dX14_runStatement_11 rfl (lv_at hl 1 rfl) ?_
    refine lv_iconst (v := 1) hx hb dX14_runStatement_12 (by decide) ?_
    have kb_1 : bd 1 1 (1 : Int32) := ⟨by decide, by decide⟩
    have go_ := g
    refine g_zast hx hb hK g ma_10 ka_10 (by decide) rfl (in_bd b_1 (by decide)) (bd_sub kb_1 (by decide)) (by decide) dX14_runStatement_13 (fun f H locs hM_11 g => ?_)
    have hG_12 := isV.frame hM_11 go_.2.2.2.1 mq0_ kq0_ (by decide) (by decide) hG_8
    have hG_13 := RA.frame hM_11 go_.2.2.2.1 ma0_ ka0_ (by decide) (by decide) hG_9
    refine lv_aload_n hx hb dX14_runStatement_14 rfl (lv_at hl 0 rfl) ?_
    refine g_getk (C := RX14) (T := TX14) (N := 67) hx hb hts (mc_ inX14) hown hK g rfl 1 (by decide) rfl (hts _ (List.mem_cons_of_mem _ t_2147)) (fun _ h9 => h9) 2 rfl dX14_runStatement_15 ?_
    refine g_getr (K := 189) (C := RX12) (T := TX12) (N := 60) hx hb hts (mc_ inX12) hown hK g mq0_ kq0_ (by decide) rfl 34 (by decide) rfl (hts _ (List.mem_cons_of_mem _ t_1973)) (fun _ h9 => h9) rfl dX14_runStatement_18 (fun a_14 ma_14 ka_14 g => ?_)
    refine lv_iload_n hx hb dX14_runStatement_21 rfl (lv_at hl 1 rfl) ?_
    refine g_iald hx hb hK g ma_14 ka_14 (by decide) rfl (in_bd b_1 (by decide)) dX14_runStatement_22 (fun x_15 bx_15 cx_15 => ?_)
    have vx_15 : x_15 = V_.i 34 x1_.toNatClampNeg := hG_12.at g 0 rfl rfl cx_15
    by_cases e_16 : x_15 = 1
    · refine lv_topi (fun z_17 ez_17 => ?_)
      obtain rfl : z_17 = 1 := ez_17.trans e_16
      have b_18 : bd 1 1 x_15 := eqX (eq_f e_16) (bdT x_15) kb_1 (by decide)
      refine lv_tableIn (off := 37) (tgt := 60) hx hb dX14_runStatement_23 (by decide) (by decide) rfl (by decide) ?_
      refine lv_aload_n hx hb dX14_runStatement_60 rfl (lv_at hl 0 rfl) ?_
      refine g_getr (K := 219) (C := RX14) (T := TX14) (N := 67) hx hb hts (mc_ inX14) hown hK g ma0_ ka0_ (by decide) rfl 42 (by decide) rfl (hts _ (List.mem_cons_of_mem _ t_2188)) (fun _ h9 => h9) rfl dX14_runStatement_61 (fun a_19 ma_19 ka_19 g => ?_)
      refine lv_bipush (v := 8) hx hb dX14_runStatement_64 (by decide) ?_
      refine lv_aload_n hx hb dX14_runStatement_66 rfl (lv_at hl 0 rfl) ?_
      refine g_getk (C := RX14) (T := TX14) (N := 67) hx hb hts (mc_ inX14) hown hK g rfl 35 (by decide) rfl (hts _ (List.mem_cons_of_mem _ t_2181)) (fun _ h9 => h9) 5 rfl dX14_runStatement_67 ?_
      refine lv_imul hx hb dX14_runStatement_70 ?_
      refine lv_topi (fun y_20 ey_20 => ?_)
      have ty_20 := cmul_bd ey_20 (c := 8) (by decide) bw (by decide)
      have b_21 : bd 0 160 y_20 := mulc_rg ty_20 bw (by decide)
      refine lv_aload_n hx hb dX14_runStatement_71 rfl (lv_at hl 0 rfl) ?_
      refine g_getk (C := RX14) (T := TX14) (N := 67) hx hb hts (mc_ inX14) hown hK g rfl 1 (by decide) rfl (hts _ (List.mem_cons_of_mem _ t_2147)) (fun _ h9 => h9) 4 rfl dX14_runStatement_72 ?_
      refine g_getr (K := 190) (C := RX12) (T := TX12) (N := 60) hx hb hts (mc_ inX12) hown hK g mq0_ kq0_ (by decide) rfl 35 (by decide) rfl (hts _ (List.mem_cons_of_mem _ t_1975)) (fun _ h9 => h9) rfl dX14_runStatement_75 (fun a_22 ma_22 ka_22 g => ?_)
      refine lv_iload_n hx hb dX14_runStatement_78 rfl (lv_at hl 1 rfl) ?_
      refine g_iald hx hb hK g ma_22 ka_22 (by decide) rfl (in_bd b_1 (by decide)) dX14_runStatement_79 (fun x_23 bx_23 cx_23 => ?_)
      have vx_23 : x_23 = V_.i 35 x1_.toNatClampNeg := hG_12.at g 0 rfl rfl cx_23
      have b_24 : bd 0 7 x_23 := ss_let hW hS vx_15 (by have h9 := b_18; unfold bd at h9; omega) vx_23
      refine lv_iadd hx hb dX14_runStatement_80 ?_
      refine lv_topi (fun y_25 ey_25 => ?_)
      have ty_25 := add_bd ey_25 b_21 b_24 (by decide)
      have b_26 : bd 0 167 y_25 := add_rg ty_25 b_21 b_24 (by decide)
      refine lv_aload_n hx hb dX14_runStatement_81 rfl (lv_at hl 0 rfl) ?_
      refine lv_aload_n hx hb dX14_runStatement_82 rfl (lv_at hl 0 rfl) ?_
      refine g_getk (C := RX14) (T := TX14) (N := 67) hx hb hts (mc_ inX14) hown hK g rfl 1 (by decide) rfl (hts _ (List.mem_cons_of_mem _ t_2147)) (fun _ h9 => h9) 5 rfl dX14_runStatement_83 ?_
      refine g_getr (K := 193) (C := RX12) (T := TX12) (N := 60) hx hb hts (mc_ inX12) hown hK g mq0_ kq0_ (by decide) rfl 38 (by decide) rfl (hts _ (List.mem_cons_of_mem _ t_1981)) (fun _ h9 => h9) rfl dX14_runStatement_86 (fun a_27 ma_27 ka_27 g => ?_)
      refine lv_iload_n hx hb dX14_runStatement_89 rfl (lv_at hl 1 rfl) ?_
      refine g_iald hx hb hK g ma_27 ka_27 (by decide) rfl (in_bd b_1 (by decide)) dX14_runStatement_90 (fun x_28 bx_28 cx_28 => ?_)
      have vx_28 : x_28 = V_.i 38 x1_.toNatClampNeg := hG_12.at g 0 rfl rfl cx_28
      have go_ := g
      refine g_callEi (As := [.int x_28]) (rest := [.int y_25, .ref a_19]) ⟨hx, hb, hml, hown, hts⟩ (ih.1 l dC dI L kd tys f H.size g.2.2.2.1 a0_ ma0_ ka0_ x_28 q0_ mq0_ kq0_ V_ δ_ hW w_ bw x_5 (bd_sub h_6 (by decide)) Z_ O_ hG_12 hG_13 d_ hcl 13 (ss_ex hW hS (by rw [← vx_15]; have h9 := b_18; unfold bd at h9; omega) vx_28) (by have hN9 := hN; have bw9 := bw; unfold bd at bw9; have h1_ := SS.lev hW hS; omega) (g.fcts [6, 7, 5] rfl)) (cwV 1 hts (gV_ t_2634 t_2636 t_146 t_198 t_2637) rfl rfl rfl (by decide +kernel) ⟨(show N + 5 + 1 ≤ N + 1 + 5 by omega), (show 8 + (5 + 11) + (40 * N + 300) ≤ 40 * (N + 1) + 300 by omega)⟩) (pre3V g hK ma0_ ka0_ (by decide) (q := (RX14, TX14, 67)) rfl) rfl hl.1 rfl (lv_room (Nat.le_of_ble_eq_true rfl)) dX14_runStatement_91 ⟨(Nat.le_of_ble_eq_true rfl), (Nat.le_of_ble_eq_true rfl)⟩ g hK (by decide) (by decide) (fx' := [(12, 38, q0_, .ref a_27), (12, 35, q0_, .ref a_22), (14, 42, a0_, .ref a_19), (12, 34, q0_, .ref a_14), (12, 45, q0_, .ref a_10), (14, 1, a0_, .ref q0_)]) rfl (fun xr_29 fr_29 H locs mxr_29 kxr_29 hp hMr_29 g => ?_) (fun r_29 fr_29 H locs hp hMr_29 g => ?_)
      · have hG_30 := isV.frame hMr_29 go_.2.2.2.1 mq0_ kq0_ (by decide) (by decide) hG_12
        subst hQ
        exact WX.leaves hempty hlocks (fun t ht hW => g_thrE g hK mxr_29 kxr_29 trivial ht hW) g.2.2.1.2.2
      · obtain ⟨hG_31, x_32, ⟨h_33, rh_33⟩, hF_34⟩ := hp
        have hG_35 := isV.frame hMr_29 go_.2.2.2.1 mq0_ kq0_ (by decide) (by decide) hG_12
        have g := g.more hF_34
        have go_ := g
        refine g_iast hx hb hK g ma_19 ka_19 (by decide) rfl (in_bd b_26 (by decide)) (bdT r_29) (by decide) dX14_runStatement_94 (fun f H locs hM_36 g => ?_)
        have hG_37 := isV.frame hM_36 go_.2.2.2.1 mq0_ kq0_ (by decide) (by decide) hG_35
        have hG_38 := RA.frame hM_36 go_.2.2.2.1 ma0_ ka0_ (by decide) (by decide) hG_31
        refine lv_goto (tgt := 276) hx hb dX14_runStatement_95 (by decide) ?_
        subst hQ
        exact W.thenQ (W.vret hx hb hr (fun t ht hW => g_retE g hK ⟨rfl, ⟨hG_38, x_32, ⟨h_33, (by have h9_0 := bs; unfold bd at h9_0; have h9_1 := bw; unfold bd at h9_1; have h9_2 := b_1; unfold bd at h9_2; have h9_3 := b_18; unfold bd at h9_3; have h9_4 := b_24; unfold bd at h9_4; have h9_5 := h_33; unfold bd at h9_5; have h9_6 := h_6; unfold bd at h9_6; have h9_7 := b_21; unfold bd at h9_7; have h9_8 := b_26; unfold bd at h9_8; have h8_0 := kb_1; unfold bd at h8_0; omega)⟩, (g.fcts [0, 1] rfl)⟩⟩ ht hW) g.2.2.1.2.2 dX14_runStatement_276) (fun _ => MQ.toE)
    by_cases e_39 : x_15 = 2
    · refine lv_topi (fun z_40 ez_40 => ?_)
      obtain rfl : z_40 = 2 := ez_40.trans e_39
      have kb_2 : bd 2 2 (2 : Int32) := ⟨by decide, by decide⟩
      have b_41 : bd 2 2 x_15 := eqX (eq_f e_39) (bdT x_15) kb_2 (by decide)
      refine lv_tableIn (off := 75) (tgt := 98) hx hb dX14_runStatement_23 (by decide) (by decide) rfl (by decide) ?_
      refine lv_aload_n hx hb dX14_runStatement_98 rfl (lv_at hl 0 rfl) ?_
      refine lv_iload_n hx hb dX14_runStatement_99 rfl (lv_at hl 1 rfl) ?_
      have go_ := g
      refine g_callEv (As := [.int x1_]) (rest := []) ⟨hx, hb, hml, hown, hts⟩ (ih.2.2.2.2.2.2 l dC dI L kd tys f H.size g.2.2.2.1 a0_ ma0_ ka0_ x1_ q0_ mq0_ kq0_ V_ δ_ hW w_ bw x_5 (bd_sub h_6 (by decide)) Z_ O_ hG_12 hG_13 d_ hcl b_ m_ hS (by rw [← vx_15]; have h9 := b_41; unfold bd at h9; omega) (by have hN9 := hN; have bw9 := bw; unfold bd at bw9; have h1_ := SS.lev hW hS; omega) (g.fcts [3, 4, 2] rfl)) (cwV 1 hts (gV_ t_2675 t_2677 t_156 t_198 t_2678) rfl rfl rfl (by decide +kernel) ⟨(show N + 5 + 1 ≤ N + 1 + 5 by omega), (show 8 + (7 + 11) + (40 * N + 300) ≤ 40 * (N + 1) + 300 by omega)⟩) (pre3V g hK ma0_ ka0_ (by decide) (q := (RX14, TX14, 67)) rfl) rfl hl.1 rfl (lv_room (Nat.le_of_ble_eq_true rfl)) dX14_runStatement_100 ⟨(Nat.le_of_ble_eq_true rfl), (Nat.le_of_ble_eq_true rfl)⟩ g hK (by decide) (by decide) (fx' := [(12, 34, q0_, .ref a_14), (12, 45, q0_, .ref a_10), (14, 1, a0_, .ref q0_)]) rfl (fun xr_42 fr_42 H locs mxr_42 kxr_42 hp hMr_42 g => ?_) (fun fr_42 H locs hp hMr_42 g => ?_)
      · have hG_43 := isV.frame hMr_42 go_.2.2.2.1 mq0_ kq0_ (by decide) (by decide) hG_12
        subst hQ
        exact WX.leaves hempty hlocks (fun t ht hW => g_thrE g hK mxr_42 kxr_42 trivial ht hW) g.2.2.1.2.2
      · obtain ⟨hG_44, x_45, ⟨h_46, rh_46⟩, hF_47⟩ := hp
        have hG_48 := isV.frame hMr_42 go_.2.2.2.1 mq0_ kq0_ (by decide) (by decide) hG_12
        have g := g.more hF_47
        refine lv_goto (tgt := 276) hx hb dX14_runStatement_103 (by decide) ?_
        subst hQ
        exact W.thenQ (W.vret hx hb hr (fun t ht hW => g_retE g hK ⟨rfl, ⟨hG_44, x_45, ⟨h_46, (by have h9_0 := bs; unfold bd at h9_0; have h9_1 := bw; unfold bd at h9_1; have h9_2 := b_1; unfold bd at h9_2; have h9_3 := b_41; unfold bd at h9_3; have h9_4 := h_46; unfold bd at h9_4; have h9_5 := h_6; unfold bd at h9_5; have h8_0 := kb_1; unfold bd at h8_0; have h8_1 := kb_2; unfold bd at h8_1; omega)⟩, (g.fcts [0, 1] rfl)⟩⟩ ht hW) g.2.2.1.2.2 dX14_runStatement_276) (fun _ => MQ.toE)
    by_cases e_49 : x_15 = 3
    · refine lv_topi (fun z_50 ez_50 => ?_)
      obtain rfl : z_50 = 3 := ez_50.trans e_49
      have kb_3 : bd 3 3 (3 : Int32) := ⟨by decide, by decide⟩
      have b_51 : bd 3 3 x_15 := eqX (eq_f e_49) (bdT x_15) kb_3 (by decide)
      refine lv_tableIn (off := 83) (tgt := 106) hx hb dX14_runStatement_23 (by decide) (by decide) rfl (by decide) ?_
      refine lv_aload_n hx hb dX14_runStatement_106 rfl (lv_at hl 0 rfl) ?_
      refine lv_aload_n hx hb dX14_runStatement_107 rfl (lv_at hl 0 rfl) ?_
      refine lv_aload_n hx hb dX14_runStatement_108 rfl (lv_at hl 0 rfl) ?_
      refine g_getk (C := RX14) (T := TX14) (N := 67) hx hb hts (mc_ inX14) hown hK g rfl 1 (by decide) rfl (hts _ (List.mem_cons_of_mem _ t_2147)) (fun _ h9 => h9) 3 rfl dX14_runStatement_109 ?_
      refine g_getr (K := 193) (C := RX12) (T := TX12) (N := 60) hx hb hts (mc_ inX12) hown hK g mq0_ kq0_ (by decide) rfl 38 (by decide) rfl (hts _ (List.mem_cons_of_mem _ t_1981)) (fun _ h9 => h9) rfl dX14_runStatement_112 (fun a_52 ma_52 ka_52 g => ?_)
      refine lv_iload_n hx hb dX14_runStatement_115 rfl (lv_at hl 1 rfl) ?_
      refine g_iald hx hb hK g ma_52 ka_52 (by decide) rfl (in_bd b_1 (by decide)) dX14_runStatement_116 (fun x_53 bx_53 cx_53 => ?_)
      have vx_53 : x_53 = V_.i 38 x1_.toNatClampNeg := hG_12.at g 0 rfl rfl cx_53
      have go_ := g
      refine g_callEi (As := [.int x_53]) (rest := [.ref a0_]) ⟨hx, hb, hml, hown, hts⟩ (ih.1 l dC dI L kd tys f H.size g.2.2.2.1 a0_ ma0_ ka0_ x_53 q0_ mq0_ kq0_ V_ δ_ hW w_ bw x_5 (bd_sub h_6 (by decide)) Z_ O_ hG_12 hG_13 d_ hcl 13 (ss_ex hW hS (by rw [← vx_15]; have h9 := b_51; unfold bd at h9; omega) vx_53) (by have hN9 := hN; have bw9 := bw; unfold bd at bw9; have h1_ := SS.lev hW hS; omega) (g.fcts [4, 5, 3] rfl)) (cwV 1 hts (gV_ t_2634 t_2636 t_146 t_198 t_2637) rfl rfl rfl (by decide +kernel) ⟨(show N + 5 + 1 ≤ N + 1 + 5 by omega), (show 8 + (5 + 11) + (40 * N + 300) ≤ 40 * (N + 1) + 300 by omega)⟩) (pre3V g hK ma0_ ka0_ (by decide) (q := (RX14, TX14, 67)) rfl) rfl hl.1 rfl (lv_room (Nat.le_of_ble_eq_true rfl)) dX14_runStatement_117 ⟨(Nat.le_of_ble_eq_true rfl), (Nat.le_of_ble_eq_true rfl)⟩ g hK (by decide) (by decide) (fx' := [(12, 38, q0_, .ref a_52), (12, 34, q0_, .ref a_14), (12, 45, q0_, .ref a_10), (14, 1, a0_, .ref q0_)]) rfl (fun xr_54 fr_54 H locs mxr_54 kxr_54 hp hMr_54 g => ?_) (fun r_54 fr_54 H locs hp hMr_54 g => ?_)
      · have hG_55 := isV.frame hMr_54 go_.2.2.2.1 mq0_ kq0_ (by decide) (by decide) hG_12
        subst hQ
        exact WX.leaves hempty hlocks (fun t ht hW => g_thrE g hK mxr_54 kxr_54 trivial ht hW) g.2.2.1.2.2
      · obtain ⟨hG_56, x_57, ⟨h_58, rh_58⟩, hF_59⟩ := hp
        have hG_60 := isV.frame hMr_54 go_.2.2.2.1 mq0_ kq0_ (by decide) (by decide) hG_12
        have g := g.more hF_59
        have kb_0 : bd 0 0 (0 : Int32) := ⟨by decide, by decide⟩
        refine lv_if_eq (tgt := 135) hx hb dX14_runStatement_120 (by decide) (fun c_61 => ?_) (fun c_61 => ?_)
        · have fc_61 := eq_f c_61
          have b_62 : bd 0 0 r_54 := eqX fc_61 (bdT r_54) kb_0 (by decide)
          refine lv_aload_n hx hb dX14_runStatement_135 rfl (lv_at hl 0 rfl) ?_
          refine g_getk (C := RX14) (T := TX14) (N := 67) hx hb hts (mc_ inX14) hown hK g rfl 1 (by decide) rfl (hts _ (List.mem_cons_of_mem _ t_2147)) (fun _ h9 => h9) 5 rfl dX14_runStatement_136 ?_
          refine g_getr (K := 195) (C := RX12) (T := TX12) (N := 60) hx hb hts (mc_ inX12) hown hK g mq0_ kq0_ (by decide) rfl 40 (by decide) rfl (hts _ (List.mem_cons_of_mem _ t_1985)) (fun _ h9 => h9) rfl dX14_runStatement_139 (fun a_63 ma_63 ka_63 g => ?_)
          refine lv_iload_n hx hb dX14_runStatement_142 rfl (lv_at hl 1 rfl) ?_
          refine g_iald hx hb hK g ma_63 ka_63 (by decide) rfl (in_bd b_1 (by decide)) dX14_runStatement_143 (fun x_64 bx_64 cx_64 => ?_)
          have vx_64 : x_64 = V_.i 40 x1_.toNatClampNeg := hG_60.at g 0 rfl rfl cx_64
          have go_ := g
          refine g_callEv (As := [.int x_64]) (rest := []) ⟨hx, hb, hml, hown, hts⟩ (ih.2.2.2.2.1 l dC dI L kd tys fr_54 H.size g.2.2.2.1 a0_ ma0_ ka0_ x_64 q0_ mq0_ kq0_ V_ δ_ hW w_ bw x_57 h_58 Z_ O_ hG_60 hG_56 d_ hcl (b_ + 1) m_ (ss_els hW hS (by rw [← vx_15]; have h9 := b_51; unfold bd at h9; omega) vx_64) hS.2.2.2.2 (by have := (SS.lev hW hS).2; omega) (by have hN9 := hN; have bw9 := bw; unfold bd at bw9; have h1_ := SS.lev hW hS; omega) (g.fcts [6, 1, 2] rfl)) (cwV 1 hts (gV_ t_2667 t_2669 t_154 t_198 t_2670) rfl rfl rfl (by decide +kernel) ⟨(show N + 5 + 1 ≤ N + 1 + 5 by omega), (show 8 + (3 + 11) + (40 * N + 300) ≤ 40 * (N + 1) + 300 by omega)⟩) (pre3V g hK ma0_ ka0_ (by decide) (q := (RX14, TX14, 67)) rfl) rfl hl.1 rfl (lv_room (Nat.le_of_ble_eq_true rfl)) dX14_runStatement_144 ⟨(Nat.le_of_ble_eq_true rfl), (Nat.le_of_ble_eq_true rfl)⟩ g hK (by decide) (by decide) (fx' := [(12, 40, q0_, .ref a_63), (12, 38, q0_, .ref a_52), (12, 34, q0_, .ref a_14), (12, 45, q0_, .ref a_10), (14, 1, a0_, .ref q0_)]) rfl (fun xr_65 fr_65 H locs mxr_65 kxr_65 hp hMr_65 g => ?_) (fun fr_65 H locs hp hMr_65 g => ?_)
          · have hG_66 := isV.frame hMr_65 go_.2.2.2.1 mq0_ kq0_ (by decide) (by decide) hG_60
            subst hQ
            exact WX.leaves hempty hlocks (fun t ht hW => g_thrE g hK mxr_65 kxr_65 trivial ht hW) g.2.2.1.2.2
          · obtain ⟨hG_67, x_68, ⟨h_69, rh_69⟩, hF_70⟩ := hp
            have hG_71 := isV.frame hMr_65 go_.2.2.2.1 mq0_ kq0_ (by decide) (by decide) hG_60
            have g := g.more hF_70
            refine lv_goto (tgt := 276) hx hb dX14_runStatement_147 (by decide) ?_
            subst hQ
            exact W.thenQ (W.vret hx hb hr (fun t ht hW => g_retE g hK ⟨rfl, ⟨hG_67, x_68, ⟨h_69, (by have h9_0 := b_62; unfold bd at h9_0; have h9_1 := bs; unfold bd at h9_1; have h9_2 := bw; unfold bd at h9_2; have h9_3 := b_1; unfold bd at h9_3; have h9_4 := b_51; unfold bd at h9_4; have h9_5 := h_6; unfold bd at h9_5; have h9_6 := h_58; unfold bd at h9_6; have h9_7 := h_69; unfold bd at h9_7; have h8_0 := kb_0; unfold bd at h8_0; have h8_1 := kb_1; unfold bd at h8_1; have h8_2 := kb_3; unfold bd at h8_2; omega)⟩, (g.fcts [0, 1] rfl)⟩⟩ ht hW) g.2.2.1.2.2 dX14_runStatement_276) (fun _ => MQ.toE)
        · have fc_61 := neq_f c_61
          refine lv_aload_n hx hb dX14_runStatement_123 rfl (lv_at hl 0 rfl) ?_
          refine g_getk (C := RX14) (T := TX14) (N := 67) hx hb hts (mc_ inX14) hown hK g rfl 1 (by decide) rfl (hts _ (List.mem_cons_of_mem _ t_2147)) (fun _ h9 => h9) 5 rfl dX14_runStatement_124 ?_
          refine g_getr (K := 194) (C := RX12) (T := TX12) (N := 60) hx hb hts (mc_ inX12) hown hK g mq0_ kq0_ (by decide) rfl 39 (by decide) rfl (hts _ (List.mem_cons_of_mem _ t_1983)) (fun _ h9 => h9) rfl dX14_runStatement_127 (fun a_72 ma_72 ka_72 g => ?_)
          refine lv_iload_n hx hb dX14_runStatement_130 rfl (lv_at hl 1 rfl) ?_
          refine g_iald hx hb hK g ma_72 ka_72 (by decide) rfl (in_bd b_1 (by decide)) dX14_runStatement_131 (fun x_73 bx_73 cx_73 => ?_)
          have vx_73 : x_73 = V_.i 39 x1_.toNatClampNeg := hG_60.at g 0 rfl rfl cx_73
          refine lv_goto (tgt := 144) hx hb dX14_runStatement_132 (by decide) ?_
          have go_ := g
          refine g_callEv (As := [.int x_73]) (rest := []) ⟨hx, hb, hml, hown, hts⟩ (ih.2.2.2.2.1 l dC dI L kd tys fr_54 H.size g.2.2.2.1 a0_ ma0_ ka0_ x_73 q0_ mq0_ kq0_ V_ δ_ hW w_ bw x_57 h_58 Z_ O_ hG_60 hG_56 d_ hcl (b_ + 1) m_ (ss_blk hW hS (by rw [← vx_15]; have h9 := b_51; unfold bd at h9; omega) vx_73) hS.2.2.2.2 (by have := (SS.lev hW hS).2; omega) (by have hN9 := hN; have bw9 := bw; unfold bd at bw9; have h1_ := SS.lev hW hS; omega) (g.fcts [6, 1, 2] rfl)) (cwV 1 hts (gV_ t_2667 t_2669 t_154 t_198 t_2670) rfl rfl rfl (by decide +kernel) ⟨(show N + 5 + 1 ≤ N + 1 + 5 by omega), (show 8 + (3 + 11) + (40 * N + 300) ≤ 40 * (N + 1) + 300 by omega)⟩) (pre3V g hK ma0_ ka0_ (by decide) (q := (RX14, TX14, 67)) rfl) rfl hl.1 rfl (lv_room (Nat.le_of_ble_eq_true rfl)) dX14_runStatement_144 ⟨(Nat.le_of_ble_eq_true rfl), (Nat.le_of_ble_eq_true rfl)⟩ g hK (by decide) (by decide) (fx' := [(12, 39, q0_, .ref a_72), (12, 38, q0_, .ref a_52), (12, 34, q0_, .ref a_14), (12, 45, q0_, .ref a_10), (14, 1, a0_, .ref q0_)]) rfl (fun xr_74 fr_74 H locs mxr_74 kxr_74 hp hMr_74 g => ?_) (fun fr_74 H locs hp hMr_74 g => ?_)
          · have hG_75 := isV.frame hMr_74 go_.2.2.2.1 mq0_ kq0_ (by decide) (by decide) hG_60
            subst hQ
            exact WX.leaves hempty hlocks (fun t ht hW => g_thrE g hK mxr_74 kxr_74 trivial ht hW) g.2.2.1.2.2
          · obtain ⟨hG_76, x_77, ⟨h_78, rh_78⟩, hF_79⟩ := hp
            have hG_80 := isV.frame hMr_74 go_.2.2.2.1 mq0_ kq0_ (by decide) (by decide) hG_60
            have g := g.more hF_79
            refine lv_goto (tgt := 276) hx hb dX14_runStatement_147 (by decide) ?_
            subst hQ
            exact W.thenQ (W.vret hx hb hr (fun t ht hW => g_retE g hK ⟨rfl, ⟨hG_76, x_77, ⟨h_78, (by have h9_0 := bs; unfold bd at h9_0; have h9_1 := bw; unfold bd at h9_1; have h9_2 := b_1; unfold bd at h9_2; have h9_3 := b_51; unfold bd at h9_3; have h9_4 := h_6; unfold bd at h9_4; have h9_5 := h_58; unfold bd at h9_5; have h9_6 := h_78; unfold bd at h9_6; have h8_0 := kb_0; unfold bd at h8_0; have h8_1 := kb_1; unfold bd at h8_1; have h8_2 := kb_3; unfold bd at h8_2; omega)⟩, (g.fcts [0, 1] rfl)⟩⟩ ht hW) g.2.2.1.2.2 dX14_runStatement_276) (fun _ => MQ.toE)
    by_cases e_81 : x_15 = 4
    · refine lv_topi (fun z_82 ez_82 => ?_)
      obtain rfl : z_82 = 4 := ez_82.trans e_81
      have kb_4 : bd 4 4 (4 : Int32) := ⟨by decide, by decide⟩
      have b_83 : bd 4 4 x_15 := eqX (eq_f e_81) (bdT x_15) kb_4 (by decide)
      refine lv_tableIn (off := 127) (tgt := 150) hx hb dX14_runStatement_23 (by decide) (by decide) rfl (by decide) ?_
      refine lv_aload_n hx hb dX14_runStatement_150 rfl (lv_at hl 0 rfl) ?_
      have go_ := g
      refine g_callEv (As := []) (rest := []) ⟨hx, hb, hml, hown, hts⟩ (r_X14_stepN l dC dI L kd tys f H.size g.2.2.2.1 a0_ ma0_ ka0_ x_5 (bd_sub h_6 (by decide)) (g.fcts [2] rfl)) (cwV 0 hts (gV_ t_2659 t_2661 t_152 t_198 t_2662) rfl rfl rfl (by decide +kernel) ⟨(show 1 + 1 ≤ N + 1 + 5 by omega), (show 8 + (1 + 11) + 21 ≤ 40 * (N + 1) + 300 by omega)⟩) (pre3V g hK ma0_ ka0_ (by decide) (q := (RX14, TX14, 67)) rfl) rfl hl.1 rfl (lv_room (Nat.le_of_ble_eq_true rfl)) dX14_runStatement_151 ⟨(Nat.le_of_ble_eq_true rfl), (Nat.le_of_ble_eq_true rfl)⟩ g hK (by decide) (by decide) (fx' := [(12, 34, q0_, .ref a_14), (12, 45, q0_, .ref a_10), (14, 1, a0_, .ref q0_), (14, 35, a0_, .int w_)]) rfl (fun xr_84 fr_84 H locs mxr_84 kxr_84 hp hMr_84 g => ?_) (fun fr_84 H locs hp hMr_84 g => ?_)
      · have hG_85 := isV.frame hMr_84 go_.2.2.2.1 mq0_ kq0_ (by decide) (by decide) hG_12
        have hG_86 := RA.frame hMr_84 go_.2.2.2.1 ma0_ ka0_ (by decide) (by decide) hG_13
        subst hQ
        exact WX.leaves hempty hlocks (fun t ht hW => g_thrE g hK mxr_84 kxr_84 trivial ht hW) g.2.2.1.2.2
      · obtain ⟨x_87, ⟨h_88, rh_88⟩, hF_89⟩ := hp
        have hG_90 := isV.frame hMr_84 go_.2.2.2.1 mq0_ kq0_ (by decide) (by decide) hG_12
        have hG_91 := RA.frame hMr_84 go_.2.2.2.1 ma0_ ka0_ (by decide) (by decide) hG_13
        have g := g.more hF_89
        have loop_92 : ∀ (n : Nat) (w154_14_34_a0_ : Int32), bd 1 300 w154_14_34_a0_ → (300 - w154_14_34_a0_.toInt < (n : Int)) → ∀ (f : Nat → va_E) (H : Heap) (locs : List Loc) (ls : Array Slot), G3 (dC, dI) L kd tys s f0 [(14, 31), (14, 32), (14, 33), (14, 34), (14, 35), (14, 39), (14, 40), (14, 45)] [200, 216, 218, 219, 220, 221] f H locs [(14, 34, a0_, .int w154_14_34_a0_), (12, 34, q0_, .ref a_14), (12, 45, q0_, .ref a_10), (14, 1, a0_, .ref q0_), (14, 35, a0_, .int w_)] → isV f q0_ V_ → RA f a0_ w_ Z_ O_ → (s_.toInt + 1 ≤ w154_14_34_a0_.toInt) → lv_has ls 3 [(0, .ref a0_), (1, .int x1_)] → W p l e ({ frames := (N + 1) + 5, cells := 0, slots := 0, locals := 40 * (N + 1) + 300 } : Room) s m [.ref a0_, .int x1_].toArray below meth c H locs 0 0 Q (F0 m 154 ls []) := by
          intro n154
          induction n154 with
          | zero =>
            intro w154_14_34_a0_ bw154_14_34_a0_ hm154 f H locs ls g hG154_V_q0_ hG154_R_a0_ hI154 hl
            exact absurd hm154 (by have h9_w154_14_34_a0_ := bw154_14_34_a0_; unfold bd at h9_w154_14_34_a0_; omega)
          | succ n154 ih154 =>
            intro w154_14_34_a0_ bw154_14_34_a0_ hm154 f H locs ls g hG154_V_q0_ hG154_R_a0_ hI154 hl
            refine lv_aload_n hx hb dX14_runStatement_154 rfl (lv_at hl 0 rfl) ?_
            refine g_geti (C := RX14) (T := TX14) (N := 67) hx hb hts (mc_ inX14) hown hK g ma0_ ka0_ (by decide) rfl 45 (by decide) rfl (hts _ (List.mem_cons_of_mem _ t_2191)) (fun _ h9 => h9) rfl dX14_runStatement_155 (fun x_93 bx_93 g => ?_)
            have kb_0 : bd 0 0 (0 : Int32) := ⟨by decide, by decide⟩
            refine lv_if_ne (tgt := 276) hx hb dX14_runStatement_158 (by decide) (fun c_94 => ?_) (fun c_94 => ?_)
            · have fc_94 := neq_f c_94
              have b_95 : bd 1 1 x_93 := neX fc_94 bx_93 kb_0 (by decide)
              subst hQ
              exact W.thenQ (W.vret hx hb hr (fun t ht hW => g_retE g hK ⟨rfl, ⟨hG154_R_a0_, w154_14_34_a0_, ⟨(bd_sub bw154_14_34_a0_ (by decide)), (by have h9_0 := bs; unfold bd at h9_0; have h9_1 := bw154_14_34_a0_; unfold bd at h9_1; have h9_2 := bw; unfold bd at h9_2; have h9_3 := b_1; unfold bd at h9_3; have h9_4 := b_83; unfold bd at h9_4; have h9_5 := h_6; unfold bd at h9_5; have h9_6 := h_88; unfold bd at h9_6; have h9_7 := b_95; unfold bd at h9_7; have h8_0 := kb_0; unfold bd at h8_0; have h8_1 := kb_1; unfold bd at h8_1; have h8_2 := kb_4; unfold bd at h8_2; omega)⟩, (g.fcts [5, 1] rfl)⟩⟩ ht hW) g.2.2.1.2.2 dX14_runStatement_276) (fun _ => MQ.toE)
            · have fc_94 := eq_f c_94
              have b_96 : bd 0 0 x_93 := eqX fc_94 bx_93 kb_0 (by decide)
              refine lv_aload_n hx hb dX14_runStatement_161 rfl (lv_at hl 0 rfl) ?_
              refine lv_aload_n hx hb dX14_runStatement_162 rfl (lv_at hl 0 rfl) ?_
              refine g_getk (C := RX14) (T := TX14) (N := 67) hx hb hts (mc_ inX14) hown hK g rfl 1 (by decide) rfl (hts _ (List.mem_cons_of_mem _ t_2147)) (fun _ h9 => h9) 4 rfl dX14_runStatement_163 ?_
              refine g_getr (K := 193) (C := RX12) (T := TX12) (N := 60) hx hb hts (mc_ inX12) hown hK g mq0_ kq0_ (by decide) rfl 38 (by decide) rfl (hts _ (List.mem_cons_of_mem _ t_1981)) (fun _ h9 => h9) rfl dX14_runStatement_166 (fun a_97 ma_97 ka_97 g => ?_)
              refine lv_iload_n hx hb dX14_runStatement_169 rfl (lv_at hl 1 rfl) ?_
              refine g_iald hx hb hK g ma_97 ka_97 (by decide) rfl (in_bd b_1 (by decide)) dX14_runStatement_170 (fun x_98 bx_98 cx_98 => ?_)
              have vx_98 : x_98 = V_.i 38 x1_.toNatClampNeg := hG154_V_q0_.at g 0 rfl rfl cx_98
              have go_ := g
              refine g_callEi (As := [.int x_98]) (rest := []) ⟨hx, hb, hml, hown, hts⟩ (ih.1 l dC dI L kd tys f H.size g.2.2.2.1 a0_ ma0_ ka0_ x_98 q0_ mq0_ kq0_ V_ δ_ hW w_ bw w154_14_34_a0_ (bd_sub bw154_14_34_a0_ (by decide)) Z_ O_ hG154_V_q0_ hG154_R_a0_ d_ hcl 13 (ss_ex hW hS (by rw [← vx_15]; have h9 := b_83; unfold bd at h9; omega) vx_98) (by have hN9 := hN; have bw9 := bw; unfold bd at bw9; have h1_ := SS.lev hW hS; omega) (g.fcts [5, 6, 2] rfl)) (cwV 1 hts (gV_ t_2634 t_2636 t_146 t_198 t_2637) rfl rfl rfl (by decide +kernel) ⟨(show N + 5 + 1 ≤ N + 1 + 5 by omega), (show 8 + (5 + 11) + (40 * N + 300) ≤ 40 * (N + 1) + 300 by omega)⟩) (pre3V g hK ma0_ ka0_ (by decide) (q := (RX14, TX14, 67)) rfl) rfl hl.1 rfl (lv_room (Nat.le_of_ble_eq_true rfl)) dX14_runStatement_171 ⟨(Nat.le_of_ble_eq_true rfl), (Nat.le_of_ble_eq_true rfl)⟩ g hK (by decide) (by decide) (fx' := [(12, 38, q0_, .ref a_97), (12, 34, q0_, .ref a_14), (12, 45, q0_, .ref a_10), (14, 1, a0_, .ref q0_)]) rfl (fun xr_99 fr_99 H locs mxr_99 kxr_99 hp hMr_99 g => ?_) (fun r_99 fr_99 H locs hp hMr_99 g => ?_)
              · have hG_100 := isV.frame hMr_99 go_.2.2.2.1 mq0_ kq0_ (by decide) (by decide) hG154_V_q0_
                subst hQ
                exact WX.leaves hempty hlocks (fun t ht hW => g_thrE g hK mxr_99 kxr_99 trivial ht hW) g.2.2.1.2.2
              · obtain ⟨hG_101, x_102, ⟨h_103, rh_103⟩, hF_104⟩ := hp
                have hG_105 := isV.frame hMr_99 go_.2.2.2.1 mq0_ kq0_ (by decide) (by decide) hG154_V_q0_
                have g := g.more hF_104
                refine lv_if_eq (tgt := 276) hx hb dX14_runStatement_174 (by decide) (fun c_106 => ?_) (fun c_106 => ?_)
                · have fc_106 := eq_f c_106
                  have b_107 : bd 0 0 r_99 := eqX fc_106 (bdT r_99) kb_0 (by decide)
                  subst hQ
                  exact W.thenQ (W.vret hx hb hr (fun t ht hW => g_retE g hK ⟨rfl, ⟨hG_101, x_102, ⟨h_103, (by have h9_0 := b_107; unfold bd at h9_0; have h9_1 := bs; unfold bd at h9_1; have h9_2 := bw154_14_34_a0_; unfold bd at h9_2; have h9_3 := bw; unfold bd at h9_3; have h9_4 := b_1; unfold bd at h9_4; have h9_5 := h_103; unfold bd at h9_5; have h9_6 := b_83; unfold bd at h9_6; have h9_7 := h_6; unfold bd at h9_7; have h9_8 := h_88; unfold bd at h9_8; have h9_9 := b_96; unfold bd at h9_9; have h8_0 := kb_0; unfold bd at h8_0; have h8_1 := kb_1; unfold bd at h8_1; have h8_2 := kb_4; unfold bd at h8_2; omega)⟩, (g.fcts [0, 1] rfl)⟩⟩ ht hW) g.2.2.1.2.2 dX14_runStatement_276) (fun _ => MQ.toE)
                · have fc_106 := neq_f c_106
                  refine lv_aload_n hx hb dX14_runStatement_177 rfl (lv_at hl 0 rfl) ?_
                  refine lv_aload_n hx hb dX14_runStatement_178 rfl (lv_at hl 0 rfl) ?_
                  refine g_getk (C := RX14) (T := TX14) (N := 67) hx hb hts (mc_ inX14) hown hK g rfl 1 (by decide) rfl (hts _ (List.mem_cons_of_mem _ t_2147)) (fun _ h9 => h9) 5 rfl dX14_runStatement_179 ?_
                  refine g_getr (K := 194) (C := RX12) (T := TX12) (N := 60) hx hb hts (mc_ inX12) hown hK g mq0_ kq0_ (by decide) rfl 39 (by decide) rfl (hts _ (List.mem_cons_of_mem _ t_1983)) (fun _ h9 => h9) rfl dX14_runStatement_182 (fun a_108 ma_108 ka_108 g => ?_)
                  refine lv_iload_n hx hb dX14_runStatement_185 rfl (lv_at hl 1 rfl) ?_
                  refine g_iald hx hb hK g ma_108 ka_108 (by decide) rfl (in_bd b_1 (by decide)) dX14_runStatement_186 (fun x_109 bx_109 cx_109 => ?_)
                  have vx_109 : x_109 = V_.i 39 x1_.toNatClampNeg := hG_105.at g 0 rfl rfl cx_109
                  have go_ := g
                  refine g_callEv (As := [.int x_109]) (rest := []) ⟨hx, hb, hml, hown, hts⟩ (ih.2.2.2.2.1 l dC dI L kd tys fr_99 H.size g.2.2.2.1 a0_ ma0_ ka0_ x_109 q0_ mq0_ kq0_ V_ δ_ hW w_ bw x_102 h_103 Z_ O_ hG_105 hG_101 d_ hcl (b_ + 1) m_ (ss_blk hW hS (by rw [← vx_15]; have h9 := b_83; unfold bd at h9; omega) vx_109) hS.2.2.2.2 (by have := (SS.lev hW hS).2; omega) (by have hN9 := hN; have bw9 := bw; unfold bd at bw9; have h1_ := SS.lev hW hS; omega) (g.fcts [6, 1, 2] rfl)) (cwV 1 hts (gV_ t_2667 t_2669 t_154 t_198 t_2670) rfl rfl rfl (by decide +kernel) ⟨(show N + 5 + 1 ≤ N + 1 + 5 by omega), (show 8 + (3 + 11) + (40 * N + 300) ≤ 40 * (N + 1) + 300 by omega)⟩) (pre3V g hK ma0_ ka0_ (by decide) (q := (RX14, TX14, 67)) rfl) rfl hl.1 rfl (lv_room (Nat.le_of_ble_eq_true rfl)) dX14_runStatement_187 ⟨(Nat.le_of_ble_eq_true rfl), (Nat.le_of_ble_eq_true rfl)⟩ g hK (by decide) (by decide) (fx' := [(12, 39, q0_, .ref a_108), (12, 38, q0_, .ref a_97), (12, 34, q0_, .ref a_14), (12, 45, q0_, .ref a_10), (14, 1, a0_, .ref q0_)]) rfl (fun xr_110 fr_110 H locs mxr_110 kxr_110 hp hMr_110 g => ?_) (fun fr_110 H locs hp hMr_110 g => ?_)
                  · have hG_111 := isV.frame hMr_110 go_.2.2.2.1 mq0_ kq0_ (by decide) (by decide) hG_105
                    subst hQ
                    exact WX.leaves hempty hlocks (fun t ht hW => g_thrE g hK mxr_110 kxr_110 trivial ht hW) g.2.2.1.2.2
                  · obtain ⟨hG_112, x_113, ⟨h_114, rh_114⟩, hF_115⟩ := hp
                    have hG_116 := isV.frame hMr_110 go_.2.2.2.1 mq0_ kq0_ (by decide) (by decide) hG_105
                    have g := g.more hF_115
                    refine lv_aload_n hx hb dX14_runStatement_190 rfl (lv_at hl 0 rfl) ?_
                    refine g_geti (C := RX14) (T := TX14) (N := 67) hx hb hts (mc_ inX14) hown hK g ma0_ ka0_ (by decide) rfl 45 (by decide) rfl (hts _ (List.mem_cons_of_mem _ t_2191)) (fun _ h9 => h9) rfl dX14_runStatement_191 (fun x_117 bx_117 g => ?_)
                    refine lv_if_ne (tgt := 154) hx hb dX14_runStatement_194 (by decide) (fun c_118 => ?_) (fun c_118 => ?_)
                    · have fc_118 := neq_f c_118
                      have b_119 : bd 1 1 x_117 := neX fc_118 bx_117 kb_0 (by decide)
                      refine lv_aload_n hx hb dX14_runStatement_154 rfl (lv_at hl 0 rfl) ?_
                      refine g_getk (C := RX14) (T := TX14) (N := 67) hx hb hts (mc_ inX14) hown hK g rfl 45 (by decide) rfl (hts _ (List.mem_cons_of_mem _ t_2191)) (fun _ h9 => h9) 0 rfl dX14_runStatement_155 ?_
                      refine lv_if_ne (tgt := 276) hx hb dX14_runStatement_158 (by decide) (fun c_120 => ?_) (fun c_120 => ?_)
                      · have fc_120 := neq_f c_120
                        subst hQ
                        exact W.thenQ (W.vret hx hb hr (fun t ht hW => g_retE g hK ⟨rfl, ⟨hG_112, x_113, ⟨h_114, (by have h9_0 := bs; unfold bd at h9_0; have h9_1 := bw154_14_34_a0_; unfold bd at h9_1; have h9_2 := bw; unfold bd at h9_2; have h9_3 := b_1; unfold bd at h9_3; have h9_4 := h_103; unfold bd at h9_4; have h9_5 := h_114; unfold bd at h9_5; have h9_6 := b_119; unfold bd at h9_6; have h9_7 := b_83; unfold bd at h9_7; have h9_8 := h_6; unfold bd at h9_8; have h9_9 := h_88; unfold bd at h9_9; have h9_10 := b_96; unfold bd at h9_10; have h8_0 := kb_0; unfold bd at h8_0; have h8_1 := kb_1; unfold bd at h8_1; have h8_2 := kb_4; unfold bd at h8_2; omega)⟩, (g.fcts [1, 2] rfl)⟩⟩ ht hW) g.2.2.1.2.2 dX14_runStatement_276) (fun _ => MQ.toE)
                      · have fc_120 := eq_f c_120
                        exact absurd fc_120 fc_118
                    · have fc_118 := eq_f c_118
                      have b_121 : bd 0 0 x_117 := eqX fc_118 bx_117 kb_0 (by decide)
                      refine lv_aload_n hx hb dX14_runStatement_197 rfl (lv_at hl 0 rfl) ?_
                      have go_ := g
                      refine g_callEv (As := []) (rest := []) ⟨hx, hb, hml, hown, hts⟩ (r_X14_stepN l dC dI L kd tys fr_110 H.size g.2.2.2.1 a0_ ma0_ ka0_ x_113 h_114 (g.fcts [2] rfl)) (cwV 0 hts (gV_ t_2659 t_2661 t_152 t_198 t_2662) rfl rfl rfl (by decide +kernel) ⟨(show 1 + 1 ≤ N + 1 + 5 by omega), (show 8 + (1 + 11) + 21 ≤ 40 * (N + 1) + 300 by omega)⟩) (pre3V g hK ma0_ ka0_ (by decide) (q := (RX14, TX14, 67)) rfl) rfl hl.1 rfl (lv_room (Nat.le_of_ble_eq_true rfl)) dX14_runStatement_198 ⟨(Nat.le_of_ble_eq_true rfl), (Nat.le_of_ble_eq_true rfl)⟩ g hK (by decide) (by decide) (fx' := [(14, 45, a0_, .int x_117), (14, 35, a0_, .int w_), (12, 39, q0_, .ref a_108), (12, 38, q0_, .ref a_97), (12, 34, q0_, .ref a_14), (12, 45, q0_, .ref a_10), (14, 1, a0_, .ref q0_)]) rfl (fun xr_122 fr_122 H locs mxr_122 kxr_122 hp hMr_122 g => ?_) (fun fr_122 H locs hp hMr_122 g => ?_)
                      · have hG_123 := isV.frame hMr_122 go_.2.2.2.1 mq0_ kq0_ (by decide) (by decide) hG_116
                        have hG_124 := RA.frame hMr_122 go_.2.2.2.1 ma0_ ka0_ (by decide) (by decide) hG_112
                        subst hQ
                        exact WX.leaves hempty hlocks (fun t ht hW => g_thrE g hK mxr_122 kxr_122 trivial ht hW) g.2.2.1.2.2
                      · obtain ⟨x_125, ⟨h_126, rh_126⟩, hF_127⟩ := hp
                        have hG_128 := isV.frame hMr_122 go_.2.2.2.1 mq0_ kq0_ (by decide) (by decide) hG_116
                        have hG_129 := RA.frame hMr_122 go_.2.2.2.1 ma0_ ka0_ (by decide) (by decide) hG_112
                        have g := g.more hF_127
                        refine lv_goto (tgt := 154) hx hb dX14_runStatement_201 (by decide) ?_
                        have hl9 := lv_sub hl [0, 1] (by rfl : lv_pick [(0, .ref a0_), (1, .int x1_)] [0, 1] = [(0, .ref a0_), (1, .int x1_)])
                        have g9 := g.sub (fx' := [(14, 34, a0_, .int x_125), (12, 34, q0_, .ref a_14), (12, 45, q0_, .ref a_10), (14, 1, a0_, .ref q0_), (14, 35, a0_, .int w_)]) [0, 5, 6, 7, 2] rfl
                        exact ih154  x_125 h_126 (by have h9_0 := bw154_14_34_a0_; unfold bd at h9_0; have h9_1 := h_126; unfold bd at h9_1; have h9_2 := kb_0; unfold bd at h9_2; have h9_3 := kb_1; unfold bd at h9_3; have h9_4 := kb_4; unfold bd at h9_4; omega) _ _ _ _ g9 hG_128 hG_129 (by omega) hl9
        have hl9 := lv_sub hl [0, 1] (by rfl : lv_pick [(0, .ref a0_), (1, .int x1_)] [0, 1] = [(0, .ref a0_), (1, .int x1_)])
        have g9 := g.sub (fx' := [(14, 34, a0_, .int x_87), (12, 34, q0_, .ref a_14), (12, 45, q0_, .ref a_10), (14, 1, a0_, .ref q0_), (14, 35, a0_, .int w_)]) [0, 1, 2, 3, 4] rfl
        exact loop_92 (302) x_87 h_88 (by have h9_0 := h_88; unfold bd at h9_0; have h9_1 := kb_1; unfold bd at h9_1; have h9_2 := kb_4; unfold bd at h9_2; omega) _ _ _ _ g9 hG_90 hG_91 (by omega) hl9
    by_cases e_130 : x_15 = 5
    · refine lv_topi (fun z_131 ez_131 => ?_)
      obtain rfl : z_131 = 5 := ez_131.trans e_130
      have kb_5 : bd 5 5 (5 : Int32) := ⟨by decide, by decide⟩
      have b_132 : bd 5 5 x_15 := eqX (eq_f e_130) (bdT x_15) kb_5 (by decide)
      refine lv_tableIn (off := 181) (tgt := 204) hx hb dX14_runStatement_23 (by decide) (by decide) rfl (by decide) ?_
      refine lv_aload_n hx hb dX14_runStatement_204 rfl (lv_at hl 0 rfl) ?_
      refine lv_aload_n hx hb dX14_runStatement_205 rfl (lv_at hl 0 rfl) ?_
      refine g_getk (C := RX14) (T := TX14) (N := 67) hx hb hts (mc_ inX14) hown hK g rfl 1 (by decide) rfl (hts _ (List.mem_cons_of_mem _ t_2147)) (fun _ h9 => h9) 3 rfl dX14_runStatement_206 ?_
      refine g_getr (K := 193) (C := RX12) (T := TX12) (N := 60) hx hb hts (mc_ inX12) hown hK g mq0_ kq0_ (by decide) rfl 38 (by decide) rfl (hts _ (List.mem_cons_of_mem _ t_1981)) (fun _ h9 => h9) rfl dX14_runStatement_209 (fun a_133 ma_133 ka_133 g => ?_)
      refine lv_iload_n hx hb dX14_runStatement_212 rfl (lv_at hl 1 rfl) ?_
      refine g_iald hx hb hK g ma_133 ka_133 (by decide) rfl (in_bd b_1 (by decide)) dX14_runStatement_213 (fun x_134 bx_134 cx_134 => ?_)
      have vx_134 : x_134 = V_.i 38 x1_.toNatClampNeg := hG_12.at g 0 rfl rfl cx_134
      have go_ := g
      refine g_callEi (As := [.int x_134]) (rest := []) ⟨hx, hb, hml, hown, hts⟩ (ih.1 l dC dI L kd tys f H.size g.2.2.2.1 a0_ ma0_ ka0_ x_134 q0_ mq0_ kq0_ V_ δ_ hW w_ bw x_5 (bd_sub h_6 (by decide)) Z_ O_ hG_12 hG_13 d_ hcl 13 (ss_ex hW hS (by rw [← vx_15]; have h9 := b_132; unfold bd at h9; omega) vx_134) (by have hN9 := hN; have bw9 := bw; unfold bd at bw9; have h1_ := SS.lev hW hS; omega) (g.fcts [4, 5, 3] rfl)) (cwV 1 hts (gV_ t_2634 t_2636 t_146 t_198 t_2637) rfl rfl rfl (by decide +kernel) ⟨(show N + 5 + 1 ≤ N + 1 + 5 by omega), (show 8 + (5 + 11) + (40 * N + 300) ≤ 40 * (N + 1) + 300 by omega)⟩) (pre3V g hK ma0_ ka0_ (by decide) (q := (RX14, TX14, 67)) rfl) rfl hl.1 rfl (lv_room (Nat.le_of_ble_eq_true rfl)) dX14_runStatement_214 ⟨(Nat.le_of_ble_eq_true rfl), (Nat.le_of_ble_eq_true rfl)⟩ g hK (by decide) (by decide) (fx' := [(12, 38, q0_, .ref a_133), (12, 34, q0_, .ref a_14), (12, 45, q0_, .ref a_10), (14, 1, a0_, .ref q0_)]) rfl (fun xr_135 fr_135 H locs mxr_135 kxr_135 hp hMr_135 g => ?_) (fun r_135 fr_135 H locs hp hMr_135 g => ?_)
      · have hG_136 := isV.frame hMr_135 go_.2.2.2.1 mq0_ kq0_ (by decide) (by decide) hG_12
        subst hQ
        exact WX.leaves hempty hlocks (fun t ht hW => g_thrE g hK mxr_135 kxr_135 trivial ht hW) g.2.2.1.2.2
      · obtain ⟨hG_137, x_138, ⟨h_139, rh_139⟩, hF_140⟩ := hp
        have hG_141 := isV.frame hMr_135 go_.2.2.2.1 mq0_ kq0_ (by decide) (by decide) hG_12
        have g := g.more hF_140
        refine lv_istore_n (lv' := [(2, .int r_135), (0, .ref a0_), (1, .int x1_)]) hx hb dX14_runStatement_217 rfl hl (by decide) rfl (fun ls hl => ?_)
        refine lv_aload_n hx hb dX14_runStatement_218 rfl (lv_at hl 1 rfl) ?_
        refine g_getr (K := 221) (C := RX14) (T := TX14) (N := 67) hx hb hts (mc_ inX14) hown hK g ma0_ ka0_ (by decide) rfl 44 (by decide) rfl (hts _ (List.mem_cons_of_mem _ t_2190)) (fun _ h9 => h9) rfl dX14_runStatement_219 (fun a_142 ma_142 ka_142 g => ?_)
        refine lv_aload_n hx hb dX14_runStatement_222 rfl (lv_at hl 1 rfl) ?_
        refine g_getk (C := RX14) (T := TX14) (N := 67) hx hb hts (mc_ inX14) hown hK g rfl 35 (by decide) rfl (hts _ (List.mem_cons_of_mem _ t_2181)) (fun _ h9 => h9) 1 rfl dX14_runStatement_223 ?_
        refine lv_iload_n hx hb dX14_runStatement_226 rfl (lv_at hl 0 rfl) ?_
        have go_ := g
        refine g_iast hx hb hK g ma_142 ka_142 (by decide) rfl (in_bd bw (by decide)) (bdT r_135) (by decide) dX14_runStatement_227 (fun f H locs hM_143 g => ?_)
        have hG_144 := isV.frame hM_143 go_.2.2.2.1 mq0_ kq0_ (by decide) (by decide) hG_141
        have hG_145 := RA.frame hM_143 go_.2.2.2.1 ma0_ ka0_ (by decide) (by decide) hG_137
        refine lv_aload_n hx hb dX14_runStatement_228 rfl (lv_at hl 1 rfl) ?_
        refine lv_iconst (v := 1) hx hb dX14_runStatement_229 (by decide) ?_
        have go_ := g
        refine g_put (C := RX14) (T := TX14) (N := 67) hx hb hts (mc_ inX14) tyX14 tyX14_ok nmX14 hown hK g ma0_ ka0_ (by decide) rfl 45 (by decide) (hts _ (List.mem_cons_of_mem _ t_2191)) (fun _ h9 => h9) rfl rfl (okV_i (bd_sub kb_1 (by decide))) rfl rfl (by decide) (Or.inr (Or.inl (by decide))) (fx' := [(14, 44, a0_, .ref a_142), (14, 35, a0_, .int w_), (14, 34, a0_, .int x_138), (12, 38, q0_, .ref a_133), (12, 34, q0_, .ref a_14), (12, 45, q0_, .ref a_10), (14, 1, a0_, .ref q0_)]) rfl dX14_runStatement_230 (fun f H locs hM_146 g => ?_)
        have hG_147 := isV.frame hM_146 go_.2.2.2.1 mq0_ kq0_ (by decide) (by decide) hG_144
        have hG_148 := RA.frame hM_146 go_.2.2.2.1 ma0_ ka0_ (by decide) (by decide) hG_145
        refine lv_goto (tgt := 276) hx hb dX14_runStatement_233 (by decide) ?_
        subst hQ
        exact W.thenQ (W.vret hx hb hr (fun t ht hW => g_retE g hK ⟨rfl, ⟨hG_148, x_138, ⟨h_139, (by have h9_0 := bs; unfold bd at h9_0; have h9_1 := bw; unfold bd at h9_1; have h9_2 := b_1; unfold bd at h9_2; have h9_3 := h_139; unfold bd at h9_3; have h9_4 := b_132; unfold bd at h9_4; have h9_5 := h_6; unfold bd at h9_5; have h8_0 := kb_1; unfold bd at h8_0; have h8_1 := kb_5; unfold bd at h8_1; omega)⟩, (g.fcts [2, 3] rfl)⟩⟩ ht hW) g.2.2.1.2.2 dX14_runStatement_276) (fun _ => MQ.toE)
    by_cases e_149 : x_15 = 6
    · refine lv_topi (fun z_150 ez_150 => ?_)
      obtain rfl : z_150 = 6 := ez_150.trans e_149
      have kb_6 : bd 6 6 (6 : Int32) := ⟨by decide, by decide⟩
      have b_151 : bd 6 6 x_15 := eqX (eq_f e_149) (bdT x_15) kb_6 (by decide)
      refine lv_tableIn (off := 213) (tgt := 236) hx hb dX14_runStatement_23 (by decide) (by decide) rfl (by decide) ?_
      refine lv_aload_n hx hb dX14_runStatement_236 rfl (lv_at hl 0 rfl) ?_
      refine lv_aload_n hx hb dX14_runStatement_237 rfl (lv_at hl 0 rfl) ?_
      refine g_getk (C := RX14) (T := TX14) (N := 67) hx hb hts (mc_ inX14) hown hK g rfl 1 (by decide) rfl (hts _ (List.mem_cons_of_mem _ t_2147)) (fun _ h9 => h9) 3 rfl dX14_runStatement_238 ?_
      refine g_getr (K := 198) (C := RX12) (T := TX12) (N := 60) hx hb hts (mc_ inX12) hown hK g mq0_ kq0_ (by decide) rfl 43 (by decide) rfl (hts _ (List.mem_cons_of_mem _ t_1991)) (fun _ h9 => h9) rfl dX14_runStatement_241 (fun a_152 ma_152 ka_152 g => ?_)
      refine lv_iload_n hx hb dX14_runStatement_244 rfl (lv_at hl 1 rfl) ?_
      refine g_laldX hx hb hK g ma_152 ka_152 (by decide) rfl (in_bd b_1 (by decide)) dX14_runStatement_245 (fun x_153 cx_153 => ?_)
      have vx_153 : x_153 = V_.l 43 x1_.toNatClampNeg := hG_12.atL g 0 rfl rfl cx_153
      refine lv_aload_n hx hb dX14_runStatement_246 rfl (lv_at hl 0 rfl) ?_
      refine g_getk (C := RX14) (T := TX14) (N := 67) hx hb hts (mc_ inX14) hown hK g rfl 1 (by decide) rfl (hts _ (List.mem_cons_of_mem _ t_2147)) (fun _ h9 => h9) 4 rfl dX14_runStatement_247 ?_
      refine g_getr (K := 199) (C := RX12) (T := TX12) (N := 60) hx hb hts (mc_ inX12) hown hK g mq0_ kq0_ (by decide) rfl 44 (by decide) rfl (hts _ (List.mem_cons_of_mem _ t_1993)) (fun _ h9 => h9) rfl dX14_runStatement_250 (fun a_154 ma_154 ka_154 g => ?_)
      refine lv_iload_n hx hb dX14_runStatement_253 rfl (lv_at hl 1 rfl) ?_
      refine g_laldX hx hb hK g ma_154 ka_154 (by decide) rfl (in_bd b_1 (by decide)) dX14_runStatement_254 (fun x_155 cx_155 => ?_)
      have vx_155 : x_155 = V_.l 44 x1_.toNatClampNeg := hG_12.atL g 0 rfl rfl cx_155
      have go_ := g
      refine g_callEv (As := [.long x_153, .long x_155]) (rest := []) ⟨hx, hb, hml, hown, hts⟩ (r_X14_throwsWord l dC dI L kd tys f H.size g.2.2.2.1 a0_ ma0_ ka0_ x_153 x_155) (cwV 2 hts (gV_ t_2647 t_2649 t_149 t_198 t_2650) rfl rfl rfl (by decide +kernel) ⟨(show 1 + 1 ≤ N + 1 + 5 by omega), (show 8 + (5 + 11) + 21 ≤ 40 * (N + 1) + 300 by omega)⟩) (pre3V g hK ma0_ ka0_ (by decide) (q := (RX14, TX14, 67)) rfl) rfl hl.1 rfl (lv_room (Nat.le_of_ble_eq_true rfl)) dX14_runStatement_255 ⟨(Nat.le_of_ble_eq_true rfl), (Nat.le_of_ble_eq_true rfl)⟩ g hK (by decide) (by decide) (fx' := [(12, 44, q0_, .ref a_154), (12, 43, q0_, .ref a_152), (12, 34, q0_, .ref a_14), (12, 45, q0_, .ref a_10), (14, 34, a0_, .int x_5), (14, 1, a0_, .ref q0_), (14, 35, a0_, .int w_)]) rfl (fun xr_156 fr_156 H locs mxr_156 kxr_156 hp hMr_156 g => ?_) (fun fr_156 H locs hp hMr_156 g => ?_)
      · have hG_157 := isV.frame hMr_156 go_.2.2.2.1 mq0_ kq0_ (by decide) (by decide) hG_12
        have hG_158 := RA.frame hMr_156 go_.2.2.2.1 ma0_ ka0_ (by decide) (by decide) hG_13
        subst hQ
        exact WX.leaves hempty hlocks (fun t ht hW => g_thrE g hK mxr_156 kxr_156 trivial ht hW) g.2.2.1.2.2
      · exact hp.elim
    refine lv_tableOut (tgt := 261) hx hb dX14_runStatement_23 (by have a0 : x_15.toInt ≠ 1 := fun h => e_16 (Int32.toInt_inj.mp (h.trans (by decide))); have a1 : x_15.toInt ≠ 2 := fun h => e_39 (Int32.toInt_inj.mp (h.trans (by decide))); have a2 : x_15.toInt ≠ 3 := fun h => e_49 (Int32.toInt_inj.mp (h.trans (by decide))); have a3 : x_15.toInt ≠ 4 := fun h => e_81 (Int32.toInt_inj.mp (h.trans (by decide))); have a4 : x_15.toInt ≠ 5 := fun h => e_130 (Int32.toInt_inj.mp (h.trans (by decide))); have a5 : x_15.toInt ≠ 6 := fun h => e_149 (Int32.toInt_inj.mp (h.trans (by decide))); omega) (by decide) ?_
    refine lv_aload_n hx hb dX14_runStatement_261 rfl (lv_at hl 0 rfl) ?_
    refine lv_aload_n hx hb dX14_runStatement_262 rfl (lv_at hl 0 rfl) ?_
    refine g_getk (C := RX14) (T := TX14) (N := 67) hx hb hts (mc_ inX14) hown hK g rfl 1 (by decide) rfl (hts _ (List.mem_cons_of_mem _ t_2147)) (fun _ h9 => h9) 3 rfl dX14_runStatement_263 ?_
    refine g_getr (K := 191) (C := RX12) (T := TX12) (N := 60) hx hb hts (mc_ inX12) hown hK g mq0_ kq0_ (by decide) rfl 36 (by decide) rfl (hts _ (List.mem_cons_of_mem _ t_1977)) (fun _ h9 => h9) rfl dX14_runStatement_266 (fun a_159 ma_159 ka_159 g => ?_)
    refine lv_iload_n hx hb dX14_runStatement_269 rfl (lv_at hl 1 rfl) ?_
    refine g_iald hx hb hK g ma_159 ka_159 (by decide) rfl (in_bd b_1 (by decide)) dX14_runStatement_270 (fun x_160 bx_160 cx_160 => ?_)
    have vx_160 : x_160 = V_.i 36 x1_.toNatClampNeg := hG_12.at g 0 rfl rfl cx_160
    refine lv_iconst (v := 0) hx hb dX14_runStatement_271 (by decide) ?_
    have hd_161 := ss_do hW hS (by rw [← vx_15]; have a0 : x_15.toInt ≠ 1 := fun h => e_16 (Int32.toInt_inj.mp (h.trans (by decide))); have a1 : x_15.toInt ≠ 2 := fun h => e_39 (Int32.toInt_inj.mp (h.trans (by decide))); have a2 : x_15.toInt ≠ 3 := fun h => e_49 (Int32.toInt_inj.mp (h.trans (by decide))); have a3 : x_15.toInt ≠ 4 := fun h => e_81 (Int32.toInt_inj.mp (h.trans (by decide))); have a4 : x_15.toInt ≠ 5 := fun h => e_130 (Int32.toInt_inj.mp (h.trans (by decide))); have a5 : x_15.toInt ≠ 6 := fun h => e_149 (Int32.toInt_inj.mp (h.trans (by decide)));  omega) vx_160
    have go_ := g
    refine g_callEi (As := [.int x_160, .int 0]) (rest := []) ⟨hx, hb, hml, hown, hts⟩ (ih.2.2.1 l dC dI L kd tys f H.size g.2.2.2.1 a0_ ma0_ ka0_ x_160 (0 : Int32) q0_ mq0_ kq0_ V_ δ_ hW w_ bw x_5 (bd_sub h_6 (by decide)) Z_ O_ hG_12 hG_13 d_ hcl 13 hd_161.1 hd_161.2 (by have hN9 := hN; have bw9 := bw; unfold bd at bw9; have h1_ := SS.lev hW hS; omega) (g.fcts [4, 5, 3] rfl)) (cwV 2 hts (gV_ t_2655 t_2657 t_151 t_198 t_2658) rfl rfl rfl (by decide +kernel) ⟨(show N + 5 + 1 ≤ N + 1 + 5 by omega), (show 8 + (10 + 11) + (40 * N + 300) ≤ 40 * (N + 1) + 300 by omega)⟩) (pre3V g hK ma0_ ka0_ (by decide) (q := (RX14, TX14, 67)) rfl) rfl hl.1 rfl (lv_room (Nat.le_of_ble_eq_true rfl)) dX14_runStatement_272 ⟨(Nat.le_of_ble_eq_true rfl), (Nat.le_of_ble_eq_true rfl)⟩ g hK (by decide) (by decide) (fx' := [(12, 36, q0_, .ref a_159), (12, 34, q0_, .ref a_14), (12, 45, q0_, .ref a_10), (14, 1, a0_, .ref q0_)]) rfl (fun xr_162 fr_162 H locs mxr_162 kxr_162 hp hMr_162 g => ?_) (fun r_162 fr_162 H locs hp hMr_162 g => ?_)
    · have hG_163 := isV.frame hMr_162 go_.2.2.2.1 mq0_ kq0_ (by decide) (by decide) hG_12
      subst hQ
      exact WX.leaves hempty hlocks (fun t ht hW => g_thrE g hK mxr_162 kxr_162 trivial ht hW) g.2.2.1.2.2
    · obtain ⟨hG_164, x_165, ⟨h_166, rh_166⟩, hF_167⟩ := hp
      have hG_168 := isV.frame hMr_162 go_.2.2.2.1 mq0_ kq0_ (by decide) (by decide) hG_12
      have g := g.more hF_167
      refine lv_istore_n (lv' := [(2, .int r_162), (0, .ref a0_), (1, .int x1_)]) hx hb dX14_runStatement_275 rfl hl (by decide) rfl (fun ls hl => ?_)
      subst hQ
      exact W.thenQ (W.vret hx hb hr (fun t ht hW => g_retE g hK ⟨rfl, ⟨hG_164, x_165, ⟨h_166, (by have h9_0 := bs; unfold bd at h9_0; have h9_1 := bw; unfold bd at h9_1; have h9_2 := b_1; unfold bd at h9_2; have h9_3 := h_166; unfold bd at h9_3; have h9_4 := h_6; unfold bd at h9_4; have h8_0 := kb_1; unfold bd at h8_0; omega)⟩, (g.fcts [0, 1] rfl)⟩⟩ ht hW) g.2.2.1.2.2 dX14_runStatement_276) (fun _ => MQ.toE)
