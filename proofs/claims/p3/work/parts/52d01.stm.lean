set_option maxHeartbeats 4000000 in
set_option maxRecDepth 100000 in
theorem r_X14_readStatement (N : Nat) (ih : RecS N) (l : Launch) (dC : Nat → ClassId) (dI : Nat → Nat → Nat) (L : List Nat) (kd : Nat → Nat) (tys : List (ClassId × FieldType)) (f0 : Nat → va_E) (sz : Nat) (hWT : WT L kd tys f0) (adK adV : Nat → Nat) (a0_ : Nat) (ma0_ : a0_ ∈ L) (ka0_ : kd a0_ = 14) (q0_ : Nat) (mq0_ : q0_ ∈ L) (kq0_ : kd q0_ = 12) (V_ : PV) (δ_ : Nat → Nat) (U_ : Nat → Prop) (o_ : Int32) (bo_ : bd 0 7 o_) (op_ : Int32) (bop_ : bd 0 40 op_) (t_ : Int32) (bt_ : bd 0 1201 t_) (me_ : Int32) (bme_ : bd 0 109 me_) (br_ : Int32) (bbr_ : bd 1 8 br_) (hV : isV f0 q0_ V_) (hSI : SI V_ δ_ V_ δ_ U_) (hU : ∀ s : Nat, U_ s → (s : Int) < (V_.n 46).toInt) (ho : (o_.toNatClampNeg : Int) < (V_.n 0).toInt) (hm27 : (me_.toNatClampNeg : Int) < (V_.n 27).toInt) (hm18 : (V_.i 18 me_.toNatClampNeg).toNatClampNeg = o_.toNatClampNeg) (hnn : (V_.n 57).toInt ≤ cF f0 a0_) (hns : 2 * (V_.n 46).toInt ≤ cF f0 a0_) (hn0 : 0 ≤ (V_.n 46).toInt) (K_ : Nat) (hK_ : 1204 ≤ 2 * (K_ : Int) + cF f0 a0_) (hN : 2 * (9 - br_.toInt) ≤ ((N + 1 : Nat) : Int)) (hfx : Fs L kd f0 [(14, 2, a0_, .ref q0_), (14, 16, a0_, .int o_), (14, 25, a0_, .int op_), (14, 10, a0_, .int t_), (14, 17, a0_, .int me_), (14, 26, a0_, .int br_)]) : MetX l yX14_readStatement (.code yX14_readStatement cX14_readStatement 8 (some .int) :: lw_g) ({ frames := (N + 1) + 493, cells := K_, slots := 3 * K_, locals := 60 * (N + 1) + 28500 }) (va_Pc [.ref a0_] (P3A (dC, dI) L tys f0 sz adK adV)) (q3Z (dC, dI) L kd tys [(12, 46), (12, 57), (12, 58), (14, 6), (14, 7), (14, 8), (14, 9), (14, 10), (14, 11), (14, 12), (14, 13), (14, 14), (14, 15), (14, 21), (14, 25), (14, 26)] [180, 189, 190, 191, 192, 193, 194, 195, 196, 197, 198, 199, 200, 201, 202, 203, 204, 205, 206, 207, 208, 209, 210, 213, 214] f0 sz (pXi (fun (r : Int32) (f : Nat → va_E) (k : Nat) => (rdS L kd f0 a0_ q0_ V_ δ_ U_ f k (isS V_ r br_.toNatClampNeg me_.toNatClampNeg)) ∧ ∃ z2_ : Int32, bd 0 1201 z2_ ∧ Fs L kd f [(14, 25, a0_, .int op_), (14, 26, a0_, .int br_), (14, 10, a0_, .int z2_)])) (fun (f : Nat → va_E) (k : Nat) => FR L kd f0 f q0_ ∧ 2 * (k : Int) + cF f0 a0_ ≤ 1203)) (pA L sz) := by
  refine MetX.ofW (cc := cX14_readStatement) (maxL := 8) (ret := (some .int)) (by decide) rfl ?_
  intro p e s m args below meth c s₁ B hml hempty hv
  obtain ⟨rfl, ⟨hsz, hP, hK, hD0⟩, hAm⟩ := hv
  have hx := B.exec
  have hb := B.bytes
  have hr := B.returns
  have hts := atoms_spec (ws := (.code yX14_readStatement cX14_readStatement 8 (some .int) :: lw_g)) B.pre
  have hown : s.vm.findClass RX14 = some m.cls := findClass_of_methodNamed B.named
  have hlocks := B.notSynchronized
  subst hsz
  have g : G3 (dC, dI) L kd tys s f0 [(12, 46), (12, 57), (12, 58), (14, 6), (14, 7), (14, 8), (14, 9), (14, 10), (14, 11), (14, 12), (14, 13), (14, 14), (14, 15), (14, 21), (14, 25), (14, 26)] [180, 189, 190, 191, 192, 193, 194, 195, 196, 197, 198, 199, 200, 201, 202, 203, 204, 205, 206, 207, 208, 209, 210, 213, 214] f0 s.heap [] [(14, 2, a0_, .ref q0_), (14, 16, a0_, .int o_), (14, 25, a0_, .int op_), (14, 10, a0_, .int t_), (14, 17, a0_, .int me_), (14, 26, a0_, .int br_)] := G3.start hP hD0 hWT hfx
  have hl := lv_entry ([.ref a0_]) (n := 8) (Nat.le_of_ble_eq_true rfl)
  rw [lg_entry_eq]
  generalize (lg_sl ([.ref a0_]) ++ List.replicate (8 - (lg_sl ([.ref a0_])).length) Slot.unset).toArray = ls at hl ⊢
  have hl : lv_has ls 8 [(0, .ref a0_)] := hl
  refine W_q (fun Q hQ => ?_)
  refine W_c0 (fun cl_0 hc_0 => ?_)
  have hck_0 : cl_0 ≤ K_ := by omega
  have hC_0 : cEq f0 a0_ (cF f0 a0_) := rfl
  have hm_0 : cF f0 a0_ ≤ 1202 := cF_le g ma0_ ka0_
  have hm_1 : -1 ≤ cF f0 a0_ := cF_ge g ma0_ ka0_
  have hsi_0 : SI V_ δ_ V_ δ_ U_ := hSI
  refine lv_aload_n hx hb dX14_readStatement_0 rfl (lv_at hl 0 rfl) ?_
  refine g_geti (C := RX14) (T := TX14) (N := 67) hx hb hts (mc_ inX14) hown hK g ma0_ ka0_ (by decide) rfl 6 (by decide) rfl (hts _ (List.mem_cons_of_mem _ t_2152)) (fun _ h9 => h9) rfl dX14_readStatement_1 (fun x_1 bx_1 g => ?_)
  refine lv_iconst (v := 1) hx hb dX14_readStatement_4 (by decide) ?_
  have kb_1 : bd 1 1 (1 : Int32) := ⟨by decide, by decide⟩
  refine lv_icmp_eq (tgt := 69) hx hb dX14_readStatement_5 (by decide) (fun c_2 => ?_) (fun c_2 => ?_)
  · have fc_2 := eq_f c_2
    have b_3 : bd 1 1 x_1 := eqX fc_2 bx_1 kb_1 (by decide)
    refine lv_iconst (v := 1) hx hb dX14_readStatement_69 (by decide) ?_
    refine lv_goto (tgt := 74) hx hb dX14_readStatement_70 (by decide) ?_
    refine lv_istore_n (lv' := [(1, .int 1), (0, .ref a0_)]) hx hb dX14_readStatement_74 rfl hl (by decide) rfl (fun ls hl => ?_)
    refine lv_aload_n hx hb dX14_readStatement_75 rfl (lv_at hl 1 rfl) ?_
    refine lv_iload_n hx hb dX14_readStatement_76 rfl (lv_at hl 0 rfl) ?_
    refine lv_iconst (v := 1) hx hb dX14_readStatement_77 (by decide) ?_
    refine lv_aload_n hx hb dX14_readStatement_78 rfl (lv_at hl 1 rfl) ?_
    refine g_geti (C := RX14) (T := TX14) (N := 67) hx hb hts (mc_ inX14) hown hK g ma0_ ka0_ (by decide) rfl 8 (by decide) rfl (hts _ (List.mem_cons_of_mem _ t_2154)) (fun _ h9 => h9) rfl dX14_readStatement_79 (fun x_4 bx_4 g => ?_)
    have hs_5 := sE_1 g 1 rfl (by have h9_0 := bbr_; unfold bd at h9_0; have h9_1 := bme_; unfold bd at h9_1; have h9_2 := bo_; unfold bd at h9_2; have h9_3 := bop_; unfold bd at h9_3; have h9_4 := bt_; unfold bd at h9_4; have h9_5 := b_3; unfold bd at h9_5; have h9_6 := bx_4; unfold bd at h9_6; have h8_0 := kb_1; unfold bd at h8_0; omega)
    have go_ := g
    refine g_callEv (As := [.int 1, .int 1, .int x_4]) (rest := []) ⟨hx, hb, hml, hown, hts⟩ (r_X14_need_3 l dC dI L kd tys f0 s.heap.size g.2.2.2.1 a0_ ma0_ ka0_ 1 kb_1 1 x_4) (cwV 3 hts (gV_ t_2403 t_2405 t_100 t_198 t_2406) rfl rfl rfl (by decide +kernel) ⟨(show 0 + 1 ≤ N + 1 + 493 by omega), (show 8 + (4 + 11) + 0 ≤ 60 * (N + 1) + 28500 by omega)⟩) (pre3V g hK ma0_ ka0_ (by decide) (q := (RX14, TX14, 67)) rfl) rfl hl.1 rfl (lv_room (Nat.le_of_ble_eq_true rfl)) dX14_readStatement_82 (cl_f hck_0) g hK (by decide) (by decide) (fx' := [(14, 8, a0_, .int x_4), (14, 6, a0_, .int x_1), (14, 2, a0_, .ref q0_), (14, 16, a0_, .int o_), (14, 25, a0_, .int op_), (14, 10, a0_, .int t_), (14, 17, a0_, .int me_), (14, 26, a0_, .int br_)]) rfl (fun xr_6 fr_6 H locs mxr_6 kxr_6 hp hMr_6 g => ?_) (fun fr_6 H locs hp hMr_6 g => ?_)
    · have hG_7 := isV.frame hMr_6 go_.2.2.2.1 mq0_ kq0_ (by decide) (by decide) hV
      have hG_8 := FR.frame hMr_6 go_.2.2.2.1 mq0_ kq0_ (by decide) (by decide) FR.refl
      have hG_9 := cEq.frame hMr_6 go_.2.2.2.1 ma0_ ka0_ (by decide) (by decide) hC_0
      exact hp.elim
    · have hG_10 := isV.frame hMr_6 go_.2.2.2.1 mq0_ kq0_ (by decide) (by decide) hV
      have hG_11 := FR.frame hMr_6 go_.2.2.2.1 mq0_ kq0_ (by decide) (by decide) FR.refl
      have hG_12 := cEq.frame hMr_6 go_.2.2.2.1 ma0_ ka0_ (by decide) (by decide) hC_0
      refine lv_aload_n hx hb dX14_readStatement_85 rfl (lv_at hl 1 rfl) ?_
      refine g_getk (C := RX14) (T := TX14) (N := 67) hx hb hts (mc_ inX14) hown hK g rfl 6 (by decide) rfl (hts _ (List.mem_cons_of_mem _ t_2152)) (fun _ h9 => h9) 1 rfl dX14_readStatement_86 ?_
      refine lv_iconst (v := 1) hx hb dX14_readStatement_89 (by decide) ?_
      refine lv_icmp_ne (tgt := 98) hx hb dX14_readStatement_90 (by decide) (fun c_13 => ?_) (fun c_13 => ?_)
      · have fc_13 := neq_f c_13
        have b_14 : bd 2 0 x_1 := neX fc_13 b_3 kb_1 (by decide)
        exact bd_no b_14 (by decide)
      · have fc_13 := eq_f c_13
        refine lv_aload_n hx hb dX14_readStatement_93 rfl (lv_at hl 1 rfl) ?_
        have qc__15 : cF fr_6 a0_ = _ := hG_12
        have hs_16 := sE_1 g 1 rfl (by have h9_0 := bbr_; unfold bd at h9_0; have h9_1 := bme_; unfold bd at h9_1; have h9_2 := bo_; unfold bd at h9_2; have h9_3 := bop_; unfold bd at h9_3; have h9_4 := bt_; unfold bd at h9_4; have h9_5 := b_3; unfold bd at h9_5; have h9_6 := bx_4; unfold bd at h9_6; have h8_0 := kb_1; unfold bd at h8_0; omega)
        have go_ := g
        refine g_callZi (As := []) (rest := []) ⟨hx, hb, hml, hown, hts⟩ (r_X14_readDoing l dC dI L kd tys fr_6 H.size g.2.2.2.1 adK adV a0_ ma0_ ka0_ q0_ mq0_ kq0_ V_ δ_ U_ o_ bo_ op_ bop_ t_ bt_ me_ bme_ br_ bbr_ x_1 (bd_sub b_3 (by decide)) hG_10 (SI.rf hsi_0.2.2.1 hsi_0.2.2.2) hU ho hm27 hm18 (by omega) (by omega) (by omega) (K_ - cl_0) (by omega) (g.fcts [2, 3, 4, 5, 6, 7, 1] rfl)) (cwV 0 hts (gV_ t_2550 t_2552 t_133 t_198 t_2553) rfl rfl rfl (by decide +kernel) ⟨(show 487 + 1 ≤ N + 1 + 493 by omega), (show 8 + (4 + 11) + 28408 ≤ 60 * (N + 1) + 28500 by omega)⟩) (pre3VA g hK hAm ma0_ ka0_ (by decide) (q := (RX14, TX14, 67)) rfl) rfl hl.1 rfl (lv_room (Nat.le_of_ble_eq_true rfl)) dX14_readStatement_94 (cl_k (K := K_) (k := K_ - cl_0) (show cl_0 + (K_ - cl_0) ≤ K_ by omega)) g hK (by decide) (by decide) (fx' := [(14, 2, a0_, .ref q0_), (14, 16, a0_, .int o_), (14, 17, a0_, .int me_)]) rfl (fun xr_17 fr_17 H locs kr_17 cr_17 ecr_17 mxr_17 kxr_17 hp hMr_17 g => ?_) (fun r_17 fr_17 H locs kr_17 cr_17 ecr_17 hp hMr_17 g => ?_)
        · have hF_18 := FR.call (mds := []) (mas := []) hG_11 go_ mq0_ kq0_ rfl hp.1
          have hpk := hp.2
          subst hQ
          exact leavesX hempty hlocks (fun t ht hW => g_thrZ g hK mxr_17 kxr_17 ⟨hF_18, (by omega)⟩ ht hW) g.2.2.1.2.2
        · obtain ⟨hx_19, x_20, h_21, hF_22⟩ := hp
          obtain ⟨V_23, D_24, E_25, hV_26, hF_27, hE_28, hsi_29, hP_30, hn_31, hs_32, hk_33, hc_34⟩ := rds_use hx_19 hG_12
          have hF_35 := FR.call (mds := []) (mas := []) hG_11 go_ mq0_ kq0_ rfl hF_27
          have mxE_25 : E_25 ≤ 1202 := by have h9 := cF_le g ma0_ ka0_; have h8 : cF _ _ = _ := hE_28; omega
          have hsi_36 := SI.call hsi_0 hsi_29
          have hsi_36l := hsi_29.1.2.2.2.2.1
          have hck_37 : cr_17 ≤ K_ := by omega
          have hi_38 := isS.base hP_30 hsi_0.1
          have hi_38a := hP_30.1
          have hi_38b := hP_30.2.1
          have b_39 : bd 0 699 r_17 := ⟨(by omega), (by omega)⟩
          have g := g.more hF_22
          have h9c : cF fr_17 a0_ = _ := hE_28
          subst hQ
          exact iretX (v := r_17) hx hb hr (fun t ht hW => g_retZ g hK ⟨_, rfl, ⟨⟨_, _, hV_26, hF_35, hsi_36, hi_38, (by omega), (by omega), (by omega), (by omega)⟩, x_20, h_21, (g.fcts [0, 1, 2] rfl)⟩⟩ ht hW) g.2.2.1.2.2 dX14_readStatement_97 hlocks
  · have fc_2 := neq_f c_2
    refine lv_aload_n hx hb dX14_readStatement_8 rfl (lv_at hl 0 rfl) ?_
    refine g_getk (C := RX14) (T := TX14) (N := 67) hx hb hts (mc_ inX14) hown hK g rfl 6 (by decide) rfl (hts _ (List.mem_cons_of_mem _ t_2152)) (fun _ h9 => h9) 0 rfl dX14_readStatement_9 ?_
    refine lv_iconst (v := 2) hx hb dX14_readStatement_12 (by decide) ?_
    have kb_2 : bd 2 2 (2 : Int32) := ⟨by decide, by decide⟩
    refine lv_icmp_ne (tgt := 73) hx hb dX14_readStatement_13 (by decide) (fun c_40 => ?_) (fun c_40 => ?_)
    · have fc_40 := neq_f c_40
      refine lv_iconst (v := 0) hx hb dX14_readStatement_73 (by decide) ?_
      refine lv_istore_n (lv' := [(1, .int 0), (0, .ref a0_)]) hx hb dX14_readStatement_74 rfl hl (by decide) rfl (fun ls hl => ?_)
      refine lv_aload_n hx hb dX14_readStatement_75 rfl (lv_at hl 1 rfl) ?_
      refine lv_iload_n hx hb dX14_readStatement_76 rfl (lv_at hl 0 rfl) ?_
      refine lv_iconst (v := 1) hx hb dX14_readStatement_77 (by decide) ?_
      refine lv_aload_n hx hb dX14_readStatement_78 rfl (lv_at hl 1 rfl) ?_
      refine g_geti (C := RX14) (T := TX14) (N := 67) hx hb hts (mc_ inX14) hown hK g ma0_ ka0_ (by decide) rfl 8 (by decide) rfl (hts _ (List.mem_cons_of_mem _ t_2154)) (fun _ h9 => h9) rfl dX14_readStatement_79 (fun x_41 bx_41 g => ?_)
      have kb_0 : bd 0 0 (0 : Int32) := ⟨by decide, by decide⟩
      have go_ := g
      refine g_callEv (As := [.int 0, .int 1, .int x_41]) (rest := []) ⟨hx, hb, hml, hown, hts⟩ (r_X14_need_2 l dC dI L kd tys f0 s.heap.size g.2.2.2.1 a0_ ma0_ ka0_ 0 kb_0 1 x_41) (cwV 3 hts (gV_ t_2403 t_2405 t_100 t_198 t_2406) rfl rfl rfl (by decide +kernel) ⟨(show 1 + 1 ≤ N + 1 + 493 by omega), (show 8 + (4 + 11) + 22 ≤ 60 * (N + 1) + 28500 by omega)⟩) (pre3V g hK ma0_ ka0_ (by decide) (q := (RX14, TX14, 67)) rfl) rfl hl.1 rfl (lv_room (Nat.le_of_ble_eq_true rfl)) dX14_readStatement_82 (cl_f hck_0) g hK (by decide) (by decide) (fx' := [(14, 8, a0_, .int x_41), (14, 6, a0_, .int x_1), (14, 2, a0_, .ref q0_), (14, 16, a0_, .int o_), (14, 25, a0_, .int op_), (14, 10, a0_, .int t_), (14, 17, a0_, .int me_), (14, 26, a0_, .int br_)]) rfl (fun xr_42 fr_42 H locs mxr_42 kxr_42 hp hMr_42 g => ?_) (fun fr_42 H locs hp hMr_42 g => ?_)
      · have hG_43 := isV.frame hMr_42 go_.2.2.2.1 mq0_ kq0_ (by decide) (by decide) hV
        have hG_44 := FR.frame hMr_42 go_.2.2.2.1 mq0_ kq0_ (by decide) (by decide) FR.refl
        have hG_45 := cEq.frame hMr_42 go_.2.2.2.1 ma0_ ka0_ (by decide) (by decide) hC_0
        subst hQ
        exact leavesX hempty hlocks (fun t ht hW => g_thrZ g hK mxr_42 kxr_42 ⟨hG_44, (by omega)⟩ ht hW) g.2.2.1.2.2
      · exact hp.elim
    · have fc_40 := eq_f c_40
      have b_46 : bd 2 2 x_1 := eqX fc_40 bx_1 kb_2 (by decide)
      refine lv_aload_n hx hb dX14_readStatement_16 rfl (lv_at hl 0 rfl) ?_
      refine g_geti (C := RX14) (T := TX14) (N := 67) hx hb hts (mc_ inX14) hown hK g ma0_ ka0_ (by decide) rfl 7 (by decide) rfl (hts _ (List.mem_cons_of_mem _ t_2153)) (fun _ h9 => h9) rfl dX14_readStatement_17 (fun x_47 bx_47 g => ?_)
      refine lv_bipush (v := 12) hx hb dX14_readStatement_20 (by decide) ?_
      have kb_12 : bd 12 12 (12 : Int32) := ⟨by decide, by decide⟩
      refine lv_icmp_eq (tgt := 69) hx hb dX14_readStatement_22 (by decide) (fun c_48 => ?_) (fun c_48 => ?_)
      · have fc_48 := eq_f c_48
        have b_49 : bd 12 12 x_47 := eqX fc_48 (bdT x_47) kb_12 (by decide)
        refine lv_iconst (v := 1) hx hb dX14_readStatement_69 (by decide) ?_
        refine lv_goto (tgt := 74) hx hb dX14_readStatement_70 (by decide) ?_
        refine lv_istore_n (lv' := [(1, .int 1), (0, .ref a0_)]) hx hb dX14_readStatement_74 rfl hl (by decide) rfl (fun ls hl => ?_)
        refine lv_aload_n hx hb dX14_readStatement_75 rfl (lv_at hl 1 rfl) ?_
        refine lv_iload_n hx hb dX14_readStatement_76 rfl (lv_at hl 0 rfl) ?_
        refine lv_iconst (v := 1) hx hb dX14_readStatement_77 (by decide) ?_
        refine lv_aload_n hx hb dX14_readStatement_78 rfl (lv_at hl 1 rfl) ?_
        refine g_geti (C := RX14) (T := TX14) (N := 67) hx hb hts (mc_ inX14) hown hK g ma0_ ka0_ (by decide) rfl 8 (by decide) rfl (hts _ (List.mem_cons_of_mem _ t_2154)) (fun _ h9 => h9) rfl dX14_readStatement_79 (fun x_50 bx_50 g => ?_)
        have hs_51 := sE_1 g 2 rfl (by have h9_0 := bbr_; unfold bd at h9_0; have h9_1 := bme_; unfold bd at h9_1; have h9_2 := bo_; unfold bd at h9_2; have h9_3 := bop_; unfold bd at h9_3; have h9_4 := bt_; unfold bd at h9_4; have h9_5 := b_46; unfold bd at h9_5; have h9_6 := b_49; unfold bd at h9_6; have h9_7 := bx_50; unfold bd at h9_7; have h8_0 := kb_1; unfold bd at h8_0; have h8_1 := kb_12; unfold bd at h8_1; have h8_2 := kb_2; unfold bd at h8_2; omega)
        have go_ := g
        refine g_callEv (As := [.int 1, .int 1, .int x_50]) (rest := []) ⟨hx, hb, hml, hown, hts⟩ (r_X14_need_3 l dC dI L kd tys f0 s.heap.size g.2.2.2.1 a0_ ma0_ ka0_ 1 kb_1 1 x_50) (cwV 3 hts (gV_ t_2403 t_2405 t_100 t_198 t_2406) rfl rfl rfl (by decide +kernel) ⟨(show 0 + 1 ≤ N + 1 + 493 by omega), (show 8 + (4 + 11) + 0 ≤ 60 * (N + 1) + 28500 by omega)⟩) (pre3V g hK ma0_ ka0_ (by decide) (q := (RX14, TX14, 67)) rfl) rfl hl.1 rfl (lv_room (Nat.le_of_ble_eq_true rfl)) dX14_readStatement_82 (cl_f hck_0) g hK (by decide) (by decide) (fx' := [(14, 8, a0_, .int x_50), (14, 7, a0_, .int x_47), (14, 6, a0_, .int x_1), (14, 2, a0_, .ref q0_), (14, 16, a0_, .int o_), (14, 25, a0_, .int op_), (14, 10, a0_, .int t_), (14, 17, a0_, .int me_), (14, 26, a0_, .int br_)]) rfl (fun xr_52 fr_52 H locs mxr_52 kxr_52 hp hMr_52 g => ?_) (fun fr_52 H locs hp hMr_52 g => ?_)
        · have hG_53 := isV.frame hMr_52 go_.2.2.2.1 mq0_ kq0_ (by decide) (by decide) hV
          have hG_54 := FR.frame hMr_52 go_.2.2.2.1 mq0_ kq0_ (by decide) (by decide) FR.refl
          have hG_55 := cEq.frame hMr_52 go_.2.2.2.1 ma0_ ka0_ (by decide) (by decide) hC_0
          exact hp.elim
        · have hG_56 := isV.frame hMr_52 go_.2.2.2.1 mq0_ kq0_ (by decide) (by decide) hV
          have hG_57 := FR.frame hMr_52 go_.2.2.2.1 mq0_ kq0_ (by decide) (by decide) FR.refl
          have hG_58 := cEq.frame hMr_52 go_.2.2.2.1 ma0_ ka0_ (by decide) (by decide) hC_0
          refine lv_aload_n hx hb dX14_readStatement_85 rfl (lv_at hl 1 rfl) ?_
          refine g_getk (C := RX14) (T := TX14) (N := 67) hx hb hts (mc_ inX14) hown hK g rfl 6 (by decide) rfl (hts _ (List.mem_cons_of_mem _ t_2152)) (fun _ h9 => h9) 2 rfl dX14_readStatement_86 ?_
          refine lv_iconst (v := 1) hx hb dX14_readStatement_89 (by decide) ?_
          refine lv_icmp_ne (tgt := 98) hx hb dX14_readStatement_90 (by decide) (fun c_59 => ?_) (fun c_59 => ?_)
          · have fc_59 := neq_f c_59
            refine lv_aload_n hx hb dX14_readStatement_98 rfl (lv_at hl 1 rfl) ?_
            have hs_60 := sE_1 g 2 rfl (by have h9_0 := bbr_; unfold bd at h9_0; have h9_1 := bme_; unfold bd at h9_1; have h9_2 := bo_; unfold bd at h9_2; have h9_3 := bop_; unfold bd at h9_3; have h9_4 := bt_; unfold bd at h9_4; have h9_5 := b_46; unfold bd at h9_5; have h9_6 := b_49; unfold bd at h9_6; have h9_7 := bx_50; unfold bd at h9_7; have h8_0 := kb_1; unfold bd at h8_0; have h8_1 := kb_12; unfold bd at h8_1; have h8_2 := kb_2; unfold bd at h8_2; omega)
            have go_ := g
            refine g_callEv (As := []) (rest := []) ⟨hx, hb, hml, hown, hts⟩ (r_X14_mayBegin_2 l dC dI L kd tys fr_52 H.size g.2.2.2.1 a0_ ma0_ ka0_ q0_ mq0_ kq0_ V_ hG_56 (g.fcts [3] rfl)) (cwV 0 hts (gV_ t_2558 t_2560 t_135 t_198 t_2561) rfl rfl rfl (by decide +kernel) ⟨(show 2 + 1 ≤ N + 1 + 493 by omega), (show 8 + (1 + 11) + 45 ≤ 60 * (N + 1) + 28500 by omega)⟩) (pre3V g hK ma0_ ka0_ (by decide) (q := (RX14, TX14, 67)) rfl) rfl hl.1 rfl (lv_room (Nat.le_of_ble_eq_true rfl)) dX14_readStatement_99 (cl_f hck_0) g hK (by decide) (by decide) (fx' := [(14, 8, a0_, .int x_50), (14, 7, a0_, .int x_47), (14, 6, a0_, .int x_1), (14, 2, a0_, .ref q0_), (14, 16, a0_, .int o_), (14, 25, a0_, .int op_), (14, 10, a0_, .int t_), (14, 17, a0_, .int me_), (14, 26, a0_, .int br_)]) rfl (fun xr_61 fr_61 H locs mxr_61 kxr_61 hp hMr_61 g => ?_) (fun fr_61 H locs hp hMr_61 g => ?_)
            · have hG_62 := cEq.frame hMr_61 go_.2.2.2.1 ma0_ ka0_ (by decide) (by decide) hG_58
              have hF_63 := FR.call (mds := []) (mas := []) hG_57 go_ mq0_ kq0_ rfl hp
              subst hQ
              exact leavesX hempty hlocks (fun t ht hW => g_thrZ g hK mxr_61 kxr_61 ⟨hF_63, (by omega)⟩ ht hW) g.2.2.1.2.2
            · obtain ⟨hx_64, hx_65, -⟩ := hp
              have hG_66 := cEq.frame hMr_61 go_.2.2.2.1 ma0_ ka0_ (by decide) (by decide) hG_58
              have hF_67 := FR.call (mds := []) (mas := []) hG_57 go_ mq0_ kq0_ rfl hx_65
              obtain ⟨V_68, hV_69, hN_70⟩ := hx_64
              have hsi_71 := SI.nodes hsi_0 hN_70.1 (hN_70.2.1 hsi_0.2.2.1)
              have hsi_71n : (V_68.n 46).toInt = (V_.n 46).toInt := by rw [exN.n46 hN_70.1]
              have hN_70n := hN_70.2.2
              refine lv_aload_n hx hb dX14_readStatement_102 rfl (lv_at hl 1 rfl) ?_
              refine g_getk (C := RX14) (T := TX14) (N := 67) hx hb hts (mc_ inX14) hown hK g rfl 7 (by decide) rfl (hts _ (List.mem_cons_of_mem _ t_2153)) (fun _ h9 => h9) 1 rfl dX14_readStatement_103 ?_
              refine lv_iconst (v := 1) hx hb dX14_readStatement_106 (by decide) ?_
              refine lv_icmp_ne (tgt := 115) hx hb dX14_readStatement_107 (by decide) (fun c_72 => ?_) (fun c_72 => ?_)
              · have fc_72 := neq_f c_72
                refine lv_aload_n hx hb dX14_readStatement_115 rfl (lv_at hl 1 rfl) ?_
                refine g_getk (C := RX14) (T := TX14) (N := 67) hx hb hts (mc_ inX14) hown hK g rfl 7 (by decide) rfl (hts _ (List.mem_cons_of_mem _ t_2153)) (fun _ h9 => h9) 1 rfl dX14_readStatement_116 ?_
                refine lv_istore_n (lv' := [(2, .int x_47), (1, .int 1), (0, .ref a0_)]) hx hb dX14_readStatement_119 rfl hl (by decide) rfl (fun ls hl => ?_)
                refine lv_aload_n hx hb dX14_readStatement_120 rfl (lv_at hl 2 rfl) ?_
                refine lv_iload_n hx hb dX14_readStatement_121 rfl (lv_at hl 0 rfl) ?_
                refine lv_bipush (v := 12) hx hb dX14_readStatement_122 (by decide) ?_
                refine lv_icmp_ne (tgt := 131) hx hb dX14_readStatement_124 (by decide) (fun c_73 => ?_) (fun c_73 => ?_)
                · have fc_73 := neq_f c_73
                  have b_74 : bd 13 11 x_47 := neX fc_73 b_49 kb_12 (by decide)
                  exact bd_no b_74 (by decide)
                · have fc_73 := eq_f c_73
                  refine lv_iconst (v := 1) hx hb dX14_readStatement_127 (by decide) ?_
                  refine lv_goto (tgt := 163) hx hb dX14_readStatement_128 (by decide) ?_
                  have hs_75 := sE_1 g 2 rfl (by have h9_0 := bbr_; unfold bd at h9_0; have h9_1 := bme_; unfold bd at h9_1; have h9_2 := bo_; unfold bd at h9_2; have h9_3 := bop_; unfold bd at h9_3; have h9_4 := bt_; unfold bd at h9_4; have h9_5 := b_46; unfold bd at h9_5; have h9_6 := b_49; unfold bd at h9_6; have h9_7 := bx_50; unfold bd at h9_7; have h8_0 := kb_1; unfold bd at h8_0; have h8_1 := kb_12; unfold bd at h8_1; have h8_2 := kb_2; unfold bd at h8_2; omega)
                  have go_ := g
                  refine g_calli (va_runV (As := [.int 1]) (rest := []) ⟨hx, hb, hml, hown, hts⟩ (r_X14_statement l dC dI L kd tys fr_61 H.size g.2.2.2.1 a0_ ma0_ ka0_ 1 q0_ mq0_ kq0_ me_ bme_ V_68 hV_69 (by omega) (g.fcts [3, 7] rfl)) (cwV 1 hts (gV_ t_2554 t_2556 t_134 t_198 t_2557) rfl rfl rfl (by decide +kernel) ⟨(show 0 + 1 ≤ N + 1 + 493 by omega), (show 8 + (3 + 11) + 0 ≤ 60 * (N + 1) + 28500 by omega)⟩) (pre3V g hK ma0_ ka0_ (by decide) (q := (RX14, TX14, 67)) rfl) rfl rfl hl.1 rfl (lv_room (Nat.le_of_ble_eq_true rfl)) dX14_readStatement_163 (cl_f hck_0)) g hK (by decide) (by decide) (fx' := [(14, 8, a0_, .int x_50), (14, 7, a0_, .int x_47), (14, 6, a0_, .int x_1), (14, 2, a0_, .ref q0_), (14, 16, a0_, .int o_), (14, 25, a0_, .int op_), (14, 10, a0_, .int t_), (14, 17, a0_, .int me_), (14, 26, a0_, .int br_)]) rfl (fun r_76 fr_76 H locs hp hMr_76 g => ?_)
                  obtain ⟨hx_77, hx_78, h_79, x_80, h_81, hF_82⟩ := hp
                  have hG_83 := cEq.frame hMr_76 go_.2.2.2.1 ma0_ ka0_ (by decide) (by decide) hG_66
                  have hF_84 := FR.call (mds := []) (mas := []) hF_67 go_ mq0_ kq0_ rfl hx_78
                  obtain ⟨V_85, hV_86, hN_87⟩ := hx_77
                  obtain ⟨D_88, hd_89, hsi_90⟩ := SI.newE (b := br_.toNatClampNeg) hsi_71 hN_87 h_79.1
                  have hsi_90e : (V_85.n 57).toInt = (V_68.n 57).toInt := by rw [(hN_87).2.2.2.1]
                  have hsi_90f : r_76.toInt = (V_68.n 46).toInt := by rw [← (hN_87).2.1]
                  have hsi_90g := (hN_87).2.2.1
                  have hlt_92 : ((r_76.toNatClampNeg : Nat) : Int) < (V_85.n 46).toInt := by rw [tnZ h_79.1]; omega
                  have g := g.more hF_82
                  refine lv_istore_n (lv' := [(3, .int r_76), (2, .int x_47), (1, .int 1), (0, .ref a0_)]) hx hb dX14_readStatement_166 rfl hl (by decide) rfl (fun ls hl => ?_)
                  refine lv_aload_n hx hb dX14_readStatement_167 rfl (lv_at hl 3 rfl) ?_
                  have hs_93 := sE_1 g 3 rfl (by have h9_0 := bbr_; unfold bd at h9_0; have h9_1 := bme_; unfold bd at h9_1; have h9_2 := bo_; unfold bd at h9_2; have h9_3 := bop_; unfold bd at h9_3; have h9_4 := h_79; unfold bd at h9_4; have h9_5 := bt_; unfold bd at h9_5; have h9_6 := b_46; unfold bd at h9_6; have h9_7 := b_49; unfold bd at h9_7; have h9_8 := bx_50; unfold bd at h9_8; have h9_9 := h_81; unfold bd at h9_9; have h8_0 := kb_1; unfold bd at h8_0; have h8_1 := kb_12; unfold bd at h8_1; have h8_2 := kb_2; unfold bd at h8_2; omega)
                  have go_ := g
                  refine g_callEv (As := []) (rest := []) ⟨hx, hb, hml, hown, hts⟩ (r_X14_next_2 l dC dI L kd tys fr_76 H.size g.2.2.2.1 adK adV a0_ ma0_ ka0_ t_ bt_ (g.fcts [7] rfl)) (cwV 0 hts (gV_ t_2411 t_2413 t_102 t_198 t_2414) rfl rfl rfl (by decide +kernel) ⟨(show 6 + 1 ≤ N + 1 + 493 by omega), (show 8 + (1 + 11) + 135 ≤ 60 * (N + 1) + 28500 by omega)⟩) (pre3VA g hK hAm ma0_ ka0_ (by decide) (q := (RX14, TX14, 67)) rfl) rfl hl.1 rfl (lv_room (Nat.le_of_ble_eq_true rfl)) dX14_readStatement_168 (cl_f hck_0) g hK (by decide) (by decide) (fx' := [(12, 46, q0_, .int x_80), (14, 2, a0_, .ref q0_), (14, 16, a0_, .int o_), (14, 25, a0_, .int op_), (14, 17, a0_, .int me_), (14, 26, a0_, .int br_)]) rfl (fun xr_94 fr_94 H locs mxr_94 kxr_94 hp hMr_94 g => ?_) (fun fr_94 H locs hp hMr_94 g => ?_)
                  · have hG_95 := FR.frame hMr_94 go_.2.2.2.1 mq0_ kq0_ (by decide) (by decide) hF_84
                    have hG_96 := isV.frame hMr_94 go_.2.2.2.1 mq0_ kq0_ (by decide) (by decide) hV_86
                    subst hQ
                    exact leavesX hempty hlocks (fun t ht hW => g_thrZ g hK mxr_94 kxr_94 ⟨hG_95, (by omega)⟩ ht hW) g.2.2.1.2.2
                  · obtain ⟨hx_97, h_98, x_99, h_100, hF_101⟩ := hp
                    have hG_102 := FR.frame hMr_94 go_.2.2.2.1 mq0_ kq0_ (by decide) (by decide) hF_84
                    have hG_103 := isV.frame hMr_94 go_.2.2.2.1 mq0_ kq0_ (by decide) (by decide) hV_86
                    obtain ⟨E_104, hE_104⟩ : ∃ E : Int, cEq fr_94 a0_ E := ⟨_, rfl⟩
                    have mxE_104 : E_104 ≤ 1202 := by have h9 := cF_le g ma0_ ka0_; have h8 : cF _ _ = _ := hE_104; omega
                    have lE_104 : (cF f0 a0_) + 1 ≤ E_104 := by have h9 := hx_97; have h8 : cF _ _ = _ := hE_104; have h7 : cF _ _ = _ := hG_83; have h6 := hs_93; have h5 := tk_c (f := fr_76) (t := a0_); omega
                    have b_105 : bd 0 1200 t_ := eqX rfl bt_ h_98 (by decide)
                    have g := g.more hF_101
                    refine lv_iload_n hx hb dX14_readStatement_171 rfl (lv_at hl 1 rfl) ?_
                    by_cases e_106 : x_47 = 12
                    · refine lv_topi (fun z_107 ez_107 => ?_)
                      obtain rfl : z_107 = 12 := ez_107.trans e_106
                      have b_108 : bd 12 12 x_47 := eqX (eq_f e_106) b_49 kb_12 (by decide)
                      refine lv_tableIn (off := 36) (tgt := 208) hx hb dX14_readStatement_172 (by decide) (by decide) rfl (by decide) ?_
                      refine lv_aload_n hx hb dX14_readStatement_208 rfl (lv_at hl 3 rfl) ?_
                      refine lv_aload_n hx hb dX14_readStatement_209 rfl (lv_at hl 3 rfl) ?_
                      refine g_geti (C := RX14) (T := TX14) (N := 67) hx hb hts (mc_ inX14) hown hK g ma0_ ka0_ (by decide) rfl 6 (by decide) rfl (hts _ (List.mem_cons_of_mem _ t_2152)) (fun _ h9 => h9) rfl dX14_readStatement_210 (fun x_109 bx_109 g => ?_)
                      refine lv_iconst (v := 1) hx hb dX14_readStatement_213 (by decide) ?_
                      refine lv_icmp_ne (tgt := 221) hx hb dX14_readStatement_214 (by decide) (fun c_110 => ?_) (fun c_110 => ?_)
                      · have fc_110 := neq_f c_110
                        refine lv_iconst (v := 0) hx hb dX14_readStatement_221 (by decide) ?_
                        refine lv_iconst (v := 1) hx hb dX14_readStatement_222 (by decide) ?_
                        refine lv_aload_n hx hb dX14_readStatement_223 rfl (lv_at hl 3 rfl) ?_
                        refine g_geti (C := RX14) (T := TX14) (N := 67) hx hb hts (mc_ inX14) hown hK g ma0_ ka0_ (by decide) rfl 8 (by decide) rfl (hts _ (List.mem_cons_of_mem _ t_2154)) (fun _ h9 => h9) rfl dX14_readStatement_224 (fun x_111 bx_111 g => ?_)
                        have kb_0 : bd 0 0 (0 : Int32) := ⟨by decide, by decide⟩
                        have go_ := g
                        refine g_callEv (As := [.int 0, .int 1, .int x_111]) (rest := []) ⟨hx, hb, hml, hown, hts⟩ (r_X14_need_2 l dC dI L kd tys fr_94 H.size g.2.2.2.1 a0_ ma0_ ka0_ 0 kb_0 1 x_111) (cwV 3 hts (gV_ t_2403 t_2405 t_100 t_198 t_2406) rfl rfl rfl (by decide +kernel) ⟨(show 1 + 1 ≤ N + 1 + 493 by omega), (show 8 + (4 + 11) + 22 ≤ 60 * (N + 1) + 28500 by omega)⟩) (pre3V g hK ma0_ ka0_ (by decide) (q := (RX14, TX14, 67)) rfl) rfl hl.1 rfl (lv_room (Nat.le_of_ble_eq_true rfl)) dX14_readStatement_227 (cl_f hck_0) g hK (by decide) (by decide) (fx' := [(14, 8, a0_, .int x_111), (14, 6, a0_, .int x_109), (14, 10, a0_, .int x_99), (12, 46, q0_, .int x_80), (14, 2, a0_, .ref q0_), (14, 16, a0_, .int o_), (14, 25, a0_, .int op_), (14, 17, a0_, .int me_), (14, 26, a0_, .int br_)]) rfl (fun xr_112 fr_112 H locs mxr_112 kxr_112 hp hMr_112 g => ?_) (fun fr_112 H locs hp hMr_112 g => ?_)
                        · have hG_113 := FR.frame hMr_112 go_.2.2.2.1 mq0_ kq0_ (by decide) (by decide) hG_102
                          have hG_114 := isV.frame hMr_112 go_.2.2.2.1 mq0_ kq0_ (by decide) (by decide) hG_103
                          have hG_115 := cEq.frame hMr_112 go_.2.2.2.1 ma0_ ka0_ (by decide) (by decide) hE_104
                          subst hQ
                          exact leavesX hempty hlocks (fun t ht hW => g_thrZ g hK mxr_112 kxr_112 ⟨hG_113, (by omega)⟩ ht hW) g.2.2.1.2.2
                        · exact hp.elim
                      · have fc_110 := eq_f c_110
                        have b_116 : bd 1 1 x_109 := eqX fc_110 bx_109 kb_1 (by decide)
                        refine lv_iconst (v := 1) hx hb dX14_readStatement_217 (by decide) ?_
                        refine lv_goto (tgt := 222) hx hb dX14_readStatement_218 (by decide) ?_
                        refine lv_iconst (v := 1) hx hb dX14_readStatement_222 (by decide) ?_
                        refine lv_aload_n hx hb dX14_readStatement_223 rfl (lv_at hl 3 rfl) ?_
                        refine g_geti (C := RX14) (T := TX14) (N := 67) hx hb hts (mc_ inX14) hown hK g ma0_ ka0_ (by decide) rfl 8 (by decide) rfl (hts _ (List.mem_cons_of_mem _ t_2154)) (fun _ h9 => h9) rfl dX14_readStatement_224 (fun x_117 bx_117 g => ?_)
                        have hs_118 := sE_1 g 1 rfl (by have h9_0 := bbr_; unfold bd at h9_0; have h9_1 := bme_; unfold bd at h9_1; have h9_2 := bo_; unfold bd at h9_2; have h9_3 := bop_; unfold bd at h9_3; have h9_4 := h_79; unfold bd at h9_4; have h9_5 := b_105; unfold bd at h9_5; have h9_6 := b_46; unfold bd at h9_6; have h9_7 := b_116; unfold bd at h9_7; have h9_8 := bx_117; unfold bd at h9_8; have h9_9 := b_108; unfold bd at h9_9; have h9_10 := bx_50; unfold bd at h9_10; have h9_11 := h_81; unfold bd at h9_11; have h9_12 := h_100; unfold bd at h9_12; have h8_0 := kb_1; unfold bd at h8_0; have h8_1 := kb_12; unfold bd at h8_1; have h8_2 := kb_2; unfold bd at h8_2; omega)
                        have go_ := g
                        refine g_callEv (As := [.int 1, .int 1, .int x_117]) (rest := []) ⟨hx, hb, hml, hown, hts⟩ (r_X14_need_3 l dC dI L kd tys fr_94 H.size g.2.2.2.1 a0_ ma0_ ka0_ 1 kb_1 1 x_117) (cwV 3 hts (gV_ t_2403 t_2405 t_100 t_198 t_2406) rfl rfl rfl (by decide +kernel) ⟨(show 0 + 1 ≤ N + 1 + 493 by omega), (show 8 + (4 + 11) + 0 ≤ 60 * (N + 1) + 28500 by omega)⟩) (pre3V g hK ma0_ ka0_ (by decide) (q := (RX14, TX14, 67)) rfl) rfl hl.1 rfl (lv_room (Nat.le_of_ble_eq_true rfl)) dX14_readStatement_227 (cl_f hck_0) g hK (by decide) (by decide) (fx' := [(14, 8, a0_, .int x_117), (14, 6, a0_, .int x_109), (14, 10, a0_, .int x_99), (12, 46, q0_, .int x_80), (14, 2, a0_, .ref q0_), (14, 16, a0_, .int o_), (14, 25, a0_, .int op_), (14, 17, a0_, .int me_), (14, 26, a0_, .int br_)]) rfl (fun xr_119 fr_119 H locs mxr_119 kxr_119 hp hMr_119 g => ?_) (fun fr_119 H locs hp hMr_119 g => ?_)
                        · have hG_120 := FR.frame hMr_119 go_.2.2.2.1 mq0_ kq0_ (by decide) (by decide) hG_102
                          have hG_121 := isV.frame hMr_119 go_.2.2.2.1 mq0_ kq0_ (by decide) (by decide) hG_103
                          have hG_122 := cEq.frame hMr_119 go_.2.2.2.1 ma0_ ka0_ (by decide) (by decide) hE_104
                          exact hp.elim
                        · have hG_123 := FR.frame hMr_119 go_.2.2.2.1 mq0_ kq0_ (by decide) (by decide) hG_102
                          have hG_124 := isV.frame hMr_119 go_.2.2.2.1 mq0_ kq0_ (by decide) (by decide) hG_103
                          have hG_125 := cEq.frame hMr_119 go_.2.2.2.1 ma0_ ka0_ (by decide) (by decide) hE_104
                          refine lv_aload_n hx hb dX14_readStatement_230 rfl (lv_at hl 3 rfl) ?_
                          refine lv_aload_n hx hb dX14_readStatement_231 rfl (lv_at hl 3 rfl) ?_
                          refine lv_aload_n hx hb dX14_readStatement_232 rfl (lv_at hl 3 rfl) ?_
                          refine g_getl (C := RX14) (T := TX14) (N := 67) hx hb hts (mc_ inX14) hown hK g ma0_ ka0_ (by decide) rfl 12 (by decide) rfl (hts _ (List.mem_cons_of_mem _ t_2158)) (fun _ h9 => h9) rfl dX14_readStatement_233 (fun x_126 g => ?_)
                          refine lv_aload_n hx hb dX14_readStatement_236 rfl (lv_at hl 3 rfl) ?_
                          refine g_getl (C := RX14) (T := TX14) (N := 67) hx hb hts (mc_ inX14) hown hK g ma0_ ka0_ (by decide) rfl 13 (by decide) rfl (hts _ (List.mem_cons_of_mem _ t_2159)) (fun _ h9 => h9) rfl dX14_readStatement_237 (fun x_127 g => ?_)
                          have hs_128 := sE_1 g 3 rfl (by have h9_0 := bbr_; unfold bd at h9_0; have h9_1 := bme_; unfold bd at h9_1; have h9_2 := bo_; unfold bd at h9_2; have h9_3 := bop_; unfold bd at h9_3; have h9_4 := h_79; unfold bd at h9_4; have h9_5 := b_105; unfold bd at h9_5; have h9_6 := b_46; unfold bd at h9_6; have h9_7 := b_116; unfold bd at h9_7; have h9_8 := bx_117; unfold bd at h9_8; have h9_9 := b_108; unfold bd at h9_9; have h9_10 := bx_50; unfold bd at h9_10; have h9_11 := h_81; unfold bd at h9_11; have h9_12 := h_100; unfold bd at h9_12; have h8_0 := kb_1; unfold bd at h8_0; have h8_1 := kb_12; unfold bd at h8_1; have h8_2 := kb_2; unfold bd at h8_2; omega)
                          obtain ⟨N_, hNN_129⟩ := isN.ex g ma0_ ka0_
                          have go_ := g
                          refine g_calli (va_runV (As := [.long x_126, .long x_127]) (rest := [.ref a0_]) ⟨hx, hb, hml, hown, hts⟩ (r_X14_named_2 l dC dI L kd tys fr_119 H.size g.2.2.2.1 a0_ ma0_ ka0_ x_126 x_127 q0_ mq0_ kq0_ o_ bo_ V_85 N_ hNN_129 hG_124 (g.fcts [6, 7] rfl)) (cwV 2 hts (gV_ t_2504 t_2506 t_122 t_198 t_2507) rfl rfl rfl (by decide +kernel) ⟨(show 1 + 1 ≤ N + 1 + 493 by omega), (show 8 + (6 + 11) + 26 ≤ 60 * (N + 1) + 28500 by omega)⟩) (pre3V g hK ma0_ ka0_ (by decide) (q := (RX14, TX14, 67)) rfl) rfl rfl hl.1 rfl (lv_room (Nat.le_of_ble_eq_true rfl)) dX14_readStatement_240 (cl_f hck_0)) g hK (by decide) (by decide) (fx' := [(14, 13, a0_, .long x_127), (14, 12, a0_, .long x_126), (14, 8, a0_, .int x_117), (14, 6, a0_, .int x_109), (14, 10, a0_, .int x_99), (12, 46, q0_, .int x_80), (14, 2, a0_, .ref q0_), (14, 16, a0_, .int o_), (14, 25, a0_, .int op_), (14, 17, a0_, .int me_), (14, 26, a0_, .int br_)]) rfl (fun r_130 fr_130 H locs hp hMr_130 g => ?_)
                          obtain ⟨hx_131, -⟩ := hp
                          have hG_132 := FR.frame hMr_130 go_.2.2.2.1 mq0_ kq0_ (by decide) (by decide) hG_123
                          have hG_133 := isV.frame hMr_130 go_.2.2.2.1 mq0_ kq0_ (by decide) (by decide) hG_124
                          have hG_134 := cEq.frame hMr_130 go_.2.2.2.1 ma0_ ka0_ (by decide) (by decide) hG_125
                          have hG_135 := isN.frame hMr_130 go_.2.2.2.1 ma0_ ka0_ (by decide) (by decide) hNN_129
                          rcases hx_131 with ⟨h_136, hd_137⟩ | ⟨h_136 | h_136 | h_136, hd_137⟩
                          · obtain rfl : r_130 = (-1) := Int32.toInt_inj.mp (h_136.trans (by decide))
                            refine lv_iconst (v := (-1)) hx hb dX14_readStatement_243 (by decide) ?_
                            refine lv_icmp_ne (tgt := 251) hx hb dX14_readStatement_244 (by decide) (fun c_ => absurd c_ (by decide)) (fun c_ => ?_)
                            refine lv_iconst (v := 1) hx hb dX14_readStatement_247 (by decide) ?_
                            refine lv_goto (tgt := 252) hx hb dX14_readStatement_248 (by decide) ?_
                            refine lv_iconst (v := 2) hx hb dX14_readStatement_252 (by decide) ?_
                            refine lv_aload_n hx hb dX14_readStatement_253 rfl (lv_at hl 3 rfl) ?_
                            refine g_getk (C := RX14) (T := TX14) (N := 67) hx hb hts (mc_ inX14) hown hK g rfl 8 (by decide) rfl (hts _ (List.mem_cons_of_mem _ t_2154)) (fun _ h9 => h9) 2 rfl dX14_readStatement_254 ?_
                            have hs_138 := sE_1 g 3 rfl (by have h9_0 := bbr_; unfold bd at h9_0; have h9_1 := bme_; unfold bd at h9_1; have h9_2 := bo_; unfold bd at h9_2; have h9_3 := bop_; unfold bd at h9_3; have h9_4 := h_79; unfold bd at h9_4; have h9_5 := b_105; unfold bd at h9_5; have h9_6 := b_46; unfold bd at h9_6; have h9_7 := b_116; unfold bd at h9_7; have h9_8 := bx_117; unfold bd at h9_8; have h9_9 := b_108; unfold bd at h9_9; have h9_10 := bx_50; unfold bd at h9_10; have h9_11 := h_81; unfold bd at h9_11; have h9_12 := h_100; unfold bd at h9_12; have h8_0 := kb_1; unfold bd at h8_0; have h8_1 := kb_12; unfold bd at h8_1; have h8_2 := kb_2; unfold bd at h8_2; omega)
                            have go_ := g
                            refine g_callEv (As := [.int 1, .int 2, .int x_117]) (rest := []) ⟨hx, hb, hml, hown, hts⟩ (r_X14_need_3 l dC dI L kd tys fr_130 H.size g.2.2.2.1 a0_ ma0_ ka0_ 1 kb_1 2 x_117) (cwV 3 hts (gV_ t_2403 t_2405 t_100 t_198 t_2406) rfl rfl rfl (by decide +kernel) ⟨(show 0 + 1 ≤ N + 1 + 493 by omega), (show 8 + (4 + 11) + 0 ≤ 60 * (N + 1) + 28500 by omega)⟩) (pre3V g hK ma0_ ka0_ (by decide) (q := (RX14, TX14, 67)) rfl) rfl hl.1 rfl (lv_room (Nat.le_of_ble_eq_true rfl)) dX14_readStatement_257 (cl_f hck_0) g hK (by decide) (by decide) (fx' := [(14, 13, a0_, .long x_127), (14, 12, a0_, .long x_126), (14, 8, a0_, .int x_117), (14, 6, a0_, .int x_109), (14, 10, a0_, .int x_99), (12, 46, q0_, .int x_80), (14, 2, a0_, .ref q0_), (14, 16, a0_, .int o_), (14, 25, a0_, .int op_), (14, 17, a0_, .int me_), (14, 26, a0_, .int br_)]) rfl (fun xr_139 fr_139 H locs mxr_139 kxr_139 hp hMr_139 g => ?_) (fun fr_139 H locs hp hMr_139 g => ?_)
                            · have hG_140 := FR.frame hMr_139 go_.2.2.2.1 mq0_ kq0_ (by decide) (by decide) hG_132
                              have hG_141 := isV.frame hMr_139 go_.2.2.2.1 mq0_ kq0_ (by decide) (by decide) hG_133
                              have hG_142 := cEq.frame hMr_139 go_.2.2.2.1 ma0_ ka0_ (by decide) (by decide) hG_134
                              have hG_143 := isN.frame hMr_139 go_.2.2.2.1 ma0_ ka0_ (by decide) (by decide) hG_135
                              exact hp.elim
                            · have hG_144 := FR.frame hMr_139 go_.2.2.2.1 mq0_ kq0_ (by decide) (by decide) hG_132
                              have hG_145 := isV.frame hMr_139 go_.2.2.2.1 mq0_ kq0_ (by decide) (by decide) hG_133
                              have hG_146 := cEq.frame hMr_139 go_.2.2.2.1 ma0_ ka0_ (by decide) (by decide) hG_134
                              have hG_147 := isN.frame hMr_139 go_.2.2.2.1 ma0_ ka0_ (by decide) (by decide) hG_135
                              refine lv_aload_n hx hb dX14_readStatement_260 rfl (lv_at hl 3 rfl) ?_
                              refine lv_aload_n hx hb dX14_readStatement_261 rfl (lv_at hl 3 rfl) ?_
                              refine g_geti (C := RX14) (T := TX14) (N := 67) hx hb hts (mc_ inX14) hown hK g ma0_ ka0_ (by decide) rfl 21 (by decide) rfl (hts _ (List.mem_cons_of_mem _ t_2167)) (fun _ h9 => h9) rfl dX14_readStatement_262 (fun x_148 bx_148 g => ?_)
                              refine lv_bipush (v := 8) hx hb dX14_readStatement_265 (by decide) ?_
                              have kb_8 : bd 8 8 (8 : Int32) := ⟨by decide, by decide⟩
                              refine lv_icmp_ge (tgt := 274) hx hb dX14_readStatement_267 (by decide) (fun c_149 => ?_) (fun c_149 => ?_)
                              · have fc_149 := le_f c_149
                                have b_150 : bd 8 8 x_148 := leR fc_149 kb_8 bx_148 (by decide)
                                refine lv_iconst (v := 0) hx hb dX14_readStatement_274 (by decide) ?_
                                refine lv_iconst (v := 4) hx hb dX14_readStatement_275 (by decide) ?_
                                refine lv_aload_n hx hb dX14_readStatement_276 rfl (lv_at hl 3 rfl) ?_
                                refine g_getk (C := RX14) (T := TX14) (N := 67) hx hb hts (mc_ inX14) hown hK g rfl 8 (by decide) rfl (hts _ (List.mem_cons_of_mem _ t_2154)) (fun _ h9 => h9) 3 rfl dX14_readStatement_277 ?_
                                have hs_151 := sE_1 g 4 rfl (by have h9_0 := bbr_; unfold bd at h9_0; have h9_1 := bme_; unfold bd at h9_1; have h9_2 := bo_; unfold bd at h9_2; have h9_3 := bop_; unfold bd at h9_3; have h9_4 := h_79; unfold bd at h9_4; have h9_5 := b_105; unfold bd at h9_5; have h9_6 := b_46; unfold bd at h9_6; have h9_7 := b_116; unfold bd at h9_7; have h9_8 := bx_117; unfold bd at h9_8; have h9_9 := b_150; unfold bd at h9_9; have h9_10 := b_108; unfold bd at h9_10; have h9_11 := bx_50; unfold bd at h9_11; have h9_12 := h_81; unfold bd at h9_12; have h9_13 := h_100; unfold bd at h9_13; have h8_0 := kb_1; unfold bd at h8_0; have h8_1 := kb_12; unfold bd at h8_1; have h8_2 := kb_2; unfold bd at h8_2; have h8_3 := kb_8; unfold bd at h8_3; omega)
                                have kb_0 : bd 0 0 (0 : Int32) := ⟨by decide, by decide⟩
                                have go_ := g
                                refine g_callEv (As := [.int 0, .int 4, .int x_117]) (rest := []) ⟨hx, hb, hml, hown, hts⟩ (r_X14_need_2 l dC dI L kd tys fr_139 H.size g.2.2.2.1 a0_ ma0_ ka0_ 0 kb_0 4 x_117) (cwV 3 hts (gV_ t_2403 t_2405 t_100 t_198 t_2406) rfl rfl rfl (by decide +kernel) ⟨(show 1 + 1 ≤ N + 1 + 493 by omega), (show 8 + (4 + 11) + 22 ≤ 60 * (N + 1) + 28500 by omega)⟩) (pre3V g hK ma0_ ka0_ (by decide) (q := (RX14, TX14, 67)) rfl) rfl hl.1 rfl (lv_room (Nat.le_of_ble_eq_true rfl)) dX14_readStatement_280 (cl_f hck_0) g hK (by decide) (by decide) (fx' := [(14, 21, a0_, .int x_148), (14, 13, a0_, .long x_127), (14, 12, a0_, .long x_126), (14, 8, a0_, .int x_117), (14, 6, a0_, .int x_109), (14, 10, a0_, .int x_99), (12, 46, q0_, .int x_80), (14, 2, a0_, .ref q0_), (14, 16, a0_, .int o_), (14, 25, a0_, .int op_), (14, 17, a0_, .int me_), (14, 26, a0_, .int br_)]) rfl (fun xr_152 fr_152 H locs mxr_152 kxr_152 hp hMr_152 g => ?_) (fun fr_152 H locs hp hMr_152 g => ?_)
                                · have hG_153 := FR.frame hMr_152 go_.2.2.2.1 mq0_ kq0_ (by decide) (by decide) hG_144
                                  have hG_154 := isV.frame hMr_152 go_.2.2.2.1 mq0_ kq0_ (by decide) (by decide) hG_145
                                  have hG_155 := cEq.frame hMr_152 go_.2.2.2.1 ma0_ ka0_ (by decide) (by decide) hG_146
                                  have hG_156 := isN.frame hMr_152 go_.2.2.2.1 ma0_ ka0_ (by decide) (by decide) hG_147
                                  subst hQ
                                  exact leavesX hempty hlocks (fun t ht hW => g_thrZ g hK mxr_152 kxr_152 ⟨hG_153, (by omega)⟩ ht hW) g.2.2.1.2.2
                                · exact hp.elim
                              · have fc_149 := nle_f c_149
                                have b_157 : bd 0 7 x_148 := ltL fc_149 bx_148 kb_8 (by decide)
                                refine lv_iconst (v := 1) hx hb dX14_readStatement_270 (by decide) ?_
                                refine lv_goto (tgt := 275) hx hb dX14_readStatement_271 (by decide) ?_
                                refine lv_iconst (v := 4) hx hb dX14_readStatement_275 (by decide) ?_
                                refine lv_aload_n hx hb dX14_readStatement_276 rfl (lv_at hl 3 rfl) ?_
                                refine g_getk (C := RX14) (T := TX14) (N := 67) hx hb hts (mc_ inX14) hown hK g rfl 8 (by decide) rfl (hts _ (List.mem_cons_of_mem _ t_2154)) (fun _ h9 => h9) 3 rfl dX14_readStatement_277 ?_
                                have hs_158 := sE_1 g 4 rfl (by have h9_0 := bbr_; unfold bd at h9_0; have h9_1 := bme_; unfold bd at h9_1; have h9_2 := bo_; unfold bd at h9_2; have h9_3 := bop_; unfold bd at h9_3; have h9_4 := h_79; unfold bd at h9_4; have h9_5 := b_105; unfold bd at h9_5; have h9_6 := b_46; unfold bd at h9_6; have h9_7 := b_116; unfold bd at h9_7; have h9_8 := bx_117; unfold bd at h9_8; have h9_9 := b_157; unfold bd at h9_9; have h9_10 := b_108; unfold bd at h9_10; have h9_11 := bx_50; unfold bd at h9_11; have h9_12 := h_81; unfold bd at h9_12; have h9_13 := h_100; unfold bd at h9_13; have h8_0 := kb_1; unfold bd at h8_0; have h8_1 := kb_12; unfold bd at h8_1; have h8_2 := kb_2; unfold bd at h8_2; have h8_3 := kb_8; unfold bd at h8_3; omega)
                                have go_ := g
                                refine g_callEv (As := [.int 1, .int 4, .int x_117]) (rest := []) ⟨hx, hb, hml, hown, hts⟩ (r_X14_need_3 l dC dI L kd tys fr_139 H.size g.2.2.2.1 a0_ ma0_ ka0_ 1 kb_1 4 x_117) (cwV 3 hts (gV_ t_2403 t_2405 t_100 t_198 t_2406) rfl rfl rfl (by decide +kernel) ⟨(show 0 + 1 ≤ N + 1 + 493 by omega), (show 8 + (4 + 11) + 0 ≤ 60 * (N + 1) + 28500 by omega)⟩) (pre3V g hK ma0_ ka0_ (by decide) (q := (RX14, TX14, 67)) rfl) rfl hl.1 rfl (lv_room (Nat.le_of_ble_eq_true rfl)) dX14_readStatement_280 (cl_f hck_0) g hK (by decide) (by decide) (fx' := [(14, 21, a0_, .int x_148), (14, 13, a0_, .long x_127), (14, 12, a0_, .long x_126), (14, 8, a0_, .int x_117), (14, 6, a0_, .int x_109), (14, 10, a0_, .int x_99), (12, 46, q0_, .int x_80), (14, 2, a0_, .ref q0_), (14, 16, a0_, .int o_), (14, 25, a0_, .int op_), (14, 17, a0_, .int me_), (14, 26, a0_, .int br_)]) rfl (fun xr_159 fr_159 H locs mxr_159 kxr_159 hp hMr_159 g => ?_) (fun fr_159 H locs hp hMr_159 g => ?_)
                                · have hG_160 := FR.frame hMr_159 go_.2.2.2.1 mq0_ kq0_ (by decide) (by decide) hG_144
                                  have hG_161 := isV.frame hMr_159 go_.2.2.2.1 mq0_ kq0_ (by decide) (by decide) hG_145
                                  have hG_162 := cEq.frame hMr_159 go_.2.2.2.1 ma0_ ka0_ (by decide) (by decide) hG_146
                                  have hG_163 := isN.frame hMr_159 go_.2.2.2.1 ma0_ ka0_ (by decide) (by decide) hG_147
                                  exact hp.elim
                                · have hG_164 := FR.frame hMr_159 go_.2.2.2.1 mq0_ kq0_ (by decide) (by decide) hG_144
                                  have hG_165 := isV.frame hMr_159 go_.2.2.2.1 mq0_ kq0_ (by decide) (by decide) hG_145
                                  have hG_166 := cEq.frame hMr_159 go_.2.2.2.1 ma0_ ka0_ (by decide) (by decide) hG_146
                                  have hG_167 := isN.frame hMr_159 go_.2.2.2.1 ma0_ ka0_ (by decide) (by decide) hG_147
                                  refine lv_aload_n hx hb dX14_readStatement_283 rfl (lv_at hl 3 rfl) ?_
                                  refine g_getk (C := RX14) (T := TX14) (N := 67) hx hb hts (mc_ inX14) hown hK g rfl 12 (by decide) rfl (hts _ (List.mem_cons_of_mem _ t_2158)) (fun _ h9 => h9) 2 rfl dX14_readStatement_284 ?_
                                  refine lv_lstore (lv' := [(4, .long x_126), (3, .int r_76), (2, .int x_47), (1, .int 1), (0, .ref a0_)]) hx hb dX14_readStatement_287 hl (by decide) rfl (fun ls hl => ?_)
                                  refine lv_aload_n hx hb dX14_readStatement_289 rfl (lv_at hl 4 rfl) ?_
                                  refine g_getk (C := RX14) (T := TX14) (N := 67) hx hb hts (mc_ inX14) hown hK g rfl 13 (by decide) rfl (hts _ (List.mem_cons_of_mem _ t_2159)) (fun _ h9 => h9) 1 rfl dX14_readStatement_290 ?_
                                  refine lv_lstore (lv' := [(6, .long x_127), (4, .long x_126), (3, .int r_76), (2, .int x_47), (1, .int 1), (0, .ref a0_)]) hx hb dX14_readStatement_293 hl (by decide) rfl (fun ls hl => ?_)
                                  refine lv_aload_n hx hb dX14_readStatement_295 rfl (lv_at hl 5 rfl) ?_
                                  have hs_168 := sE_1 g 4 rfl (by have h9_0 := bbr_; unfold bd at h9_0; have h9_1 := bme_; unfold bd at h9_1; have h9_2 := bo_; unfold bd at h9_2; have h9_3 := bop_; unfold bd at h9_3; have h9_4 := h_79; unfold bd at h9_4; have h9_5 := b_105; unfold bd at h9_5; have h9_6 := b_46; unfold bd at h9_6; have h9_7 := b_116; unfold bd at h9_7; have h9_8 := bx_117; unfold bd at h9_8; have h9_9 := b_157; unfold bd at h9_9; have h9_10 := b_108; unfold bd at h9_10; have h9_11 := bx_50; unfold bd at h9_11; have h9_12 := h_81; unfold bd at h9_12; have h9_13 := h_100; unfold bd at h9_13; have h8_0 := kb_1; unfold bd at h8_0; have h8_1 := kb_12; unfold bd at h8_1; have h8_2 := kb_2; unfold bd at h8_2; have h8_3 := kb_8; unfold bd at h8_3; omega)
                                  have go_ := g
                                  refine g_callEv (As := []) (rest := []) ⟨hx, hb, hml, hown, hts⟩ (r_X14_next_2 l dC dI L kd tys fr_159 H.size g.2.2.2.1 adK adV a0_ ma0_ ka0_ x_99 h_100 (g.fcts [5] rfl)) (cwV 0 hts (gV_ t_2411 t_2413 t_102 t_198 t_2414) rfl rfl rfl (by decide +kernel) ⟨(show 6 + 1 ≤ N + 1 + 493 by omega), (show 8 + (1 + 11) + 135 ≤ 60 * (N + 1) + 28500 by omega)⟩) (pre3VA g hK hAm ma0_ ka0_ (by decide) (q := (RX14, TX14, 67)) rfl) rfl hl.1 rfl (lv_room (Nat.le_of_ble_eq_true rfl)) dX14_readStatement_296 (cl_f hck_0) g hK (by decide) (by decide) (fx' := [(14, 21, a0_, .int x_148), (12, 46, q0_, .int x_80), (14, 2, a0_, .ref q0_), (14, 16, a0_, .int o_), (14, 25, a0_, .int op_), (14, 17, a0_, .int me_), (14, 26, a0_, .int br_)]) rfl (fun xr_169 fr_169 H locs mxr_169 kxr_169 hp hMr_169 g => ?_) (fun fr_169 H locs hp hMr_169 g => ?_)
                                  · have hG_170 := FR.frame hMr_169 go_.2.2.2.1 mq0_ kq0_ (by decide) (by decide) hG_164
                                    have hG_171 := isV.frame hMr_169 go_.2.2.2.1 mq0_ kq0_ (by decide) (by decide) hG_165
                                    have hG_172 := isN.frame hMr_169 go_.2.2.2.1 ma0_ ka0_ (by decide) (by decide) hG_167
                                    subst hQ
                                    exact leavesX hempty hlocks (fun t ht hW => g_thrZ g hK mxr_169 kxr_169 ⟨hG_170, (by omega)⟩ ht hW) g.2.2.1.2.2
                                  · obtain ⟨hx_173, h_174, x_175, h_176, hF_177⟩ := hp
                                    have hG_178 := FR.frame hMr_169 go_.2.2.2.1 mq0_ kq0_ (by decide) (by decide) hG_164
                                    have hG_179 := isV.frame hMr_169 go_.2.2.2.1 mq0_ kq0_ (by decide) (by decide) hG_165
                                    have hG_180 := isN.frame hMr_169 go_.2.2.2.1 ma0_ ka0_ (by decide) (by decide) hG_167
                                    obtain ⟨E_181, hE_181⟩ : ∃ E : Int, cEq fr_169 a0_ E := ⟨_, rfl⟩
                                    have mxE_181 : E_181 ≤ 1202 := by have h9 := cF_le g ma0_ ka0_; have h8 : cF _ _ = _ := hE_181; omega
                                    have lE_181 : E_104 + 1 ≤ E_181 := by have h9 := hx_173; have h8 : cF _ _ = _ := hE_181; have h7 : cF _ _ = _ := hG_166; have h6 := hs_168; have h5 := tk_c (f := fr_159) (t := a0_); omega
                                    have b_182 : bd 0 1200 x_99 := eqX rfl h_100 h_174 (by decide)
                                    have g := g.more hF_177
                                    refine lv_aload_n hx hb dX14_readStatement_299 rfl (lv_at hl 5 rfl) ?_
                                    refine lv_bipush (v := 61) hx hb dX14_readStatement_300 (by decide) ?_
                                    have go_ := g
                                    refine g_callEv (As := [.int 61]) (rest := []) ⟨hx, hb, hml, hown, hts⟩ (r_X14_sign_2 l dC dI L kd tys fr_169 H.size g.2.2.2.1 adK adV a0_ ma0_ ka0_ 61 x_175 h_176 (g.fcts [0] rfl)) (cwV 1 hts (gV_ t_2431 t_2433 t_107 t_198 t_2434) rfl rfl rfl (by decide +kernel) ⟨(show 7 + 1 ≤ N + 1 + 493 by omega), (show 8 + (2 + 11) + 155 ≤ 60 * (N + 1) + 28500 by omega)⟩) (pre3VA g hK hAm ma0_ ka0_ (by decide) (q := (RX14, TX14, 67)) rfl) rfl hl.1 rfl (lv_room (Nat.le_of_ble_eq_true rfl)) dX14_readStatement_302 (cl_f hck_0) g hK (by decide) (by decide) (fx' := [(14, 21, a0_, .int x_148), (12, 46, q0_, .int x_80), (14, 2, a0_, .ref q0_), (14, 16, a0_, .int o_), (14, 25, a0_, .int op_), (14, 17, a0_, .int me_), (14, 26, a0_, .int br_)]) rfl (fun xr_183 fr_183 H locs mxr_183 kxr_183 hp hMr_183 g => ?_) (fun fr_183 H locs hp hMr_183 g => ?_)
                                    · have hG_184 := FR.frame hMr_183 go_.2.2.2.1 mq0_ kq0_ (by decide) (by decide) hG_178
                                      have hG_185 := isV.frame hMr_183 go_.2.2.2.1 mq0_ kq0_ (by decide) (by decide) hG_179
                                      have hG_186 := isN.frame hMr_183 go_.2.2.2.1 ma0_ ka0_ (by decide) (by decide) hG_180
                                      subst hQ
                                      exact leavesX hempty hlocks (fun t ht hW => g_thrZ g hK mxr_183 kxr_183 ⟨hG_184, (by omega)⟩ ht hW) g.2.2.1.2.2
                                    · obtain ⟨hx_187, h_188, x_189, h_190, hF_191⟩ := hp
                                      have hG_192 := FR.frame hMr_183 go_.2.2.2.1 mq0_ kq0_ (by decide) (by decide) hG_178
                                      have hG_193 := isV.frame hMr_183 go_.2.2.2.1 mq0_ kq0_ (by decide) (by decide) hG_179
                                      have hG_194 := isN.frame hMr_183 go_.2.2.2.1 ma0_ ka0_ (by decide) (by decide) hG_180
                                      obtain ⟨E_195, hE_195⟩ : ∃ E : Int, cEq fr_183 a0_ E := ⟨_, rfl⟩
                                      have mxE_195 : E_195 ≤ 1202 := by have h9 := cF_le g ma0_ ka0_; have h8 : cF _ _ = _ := hE_195; omega
                                      have lE_195 : E_181 + 1 ≤ E_195 := by have h9 := hx_187; have h8 : cF _ _ = _ := hE_195; have h7 : cF _ _ = _ := hE_181; omega
                                      have b_196 : bd 0 1200 x_175 := eqX rfl h_176 h_188 (by decide)
                                      have g := g.more hF_191
                                      refine lv_aload_n hx hb dX14_readStatement_305 rfl (lv_at hl 5 rfl) ?_
                                      refine g_getk (C := RX14) (T := TX14) (N := 67) hx hb hts (mc_ inX14) hown hK g rfl 2 (by decide) rfl (hts _ (List.mem_cons_of_mem _ t_2148)) (fun _ h9 => h9) 3 rfl dX14_readStatement_306 ?_
                                      refine g_getr (K := 193) (C := RX12) (T := TX12) (N := 60) hx hb hts (mc_ inX12) hown hK g mq0_ kq0_ (by decide) rfl 38 (by decide) rfl (hts _ (List.mem_cons_of_mem _ t_1981)) (fun _ h9 => h9) rfl dX14_readStatement_309 (fun a_197 ma_197 ka_197 g => ?_)
                                      refine lv_iload_n hx hb dX14_readStatement_312 rfl (lv_at hl 2 rfl) ?_
                                      refine lv_aload_n hx hb dX14_readStatement_313 rfl (lv_at hl 5 rfl) ?_
                                      have qc__198 : cF fr_183 a0_ = _ := hE_195
                                      have qc__199 : cF fr_183 a0_ = _ := hE_195
                                      have go_ := g
                                      refine g_callZi (As := []) (rest := [.int r_76, .ref a_197]) ⟨hx, hb, hml, hown, hts⟩ (r_X14_readEx l dC dI L kd tys fr_183 H.size g.2.2.2.1 adK adV a0_ ma0_ ka0_ q0_ mq0_ kq0_ V_85 o_ bo_ op_ bop_ x_189 h_190 hG_193 hsi_90.2.2.1 (by rw [hsi_90.1.2.2.1 0 (by decide) (by decide)]; exact ho) (by omega) (K_ - cl_0) (by omega) (g.fcts [4, 5, 6, 1] rfl)) (cwV 0 hts (gV_ t_2460 t_2462 t_112 t_198 t_2463) rfl rfl rfl (by decide +kernel) ⟨(show 486 + 1 ≤ N + 1 + 493 by omega), (show 8 + (3 + 11) + 28386 ≤ 60 * (N + 1) + 28500 by omega)⟩) (pre3VA g hK hAm ma0_ ka0_ (by decide) (q := (RX14, TX14, 67)) rfl) rfl hl.1 rfl (lv_room (Nat.le_of_ble_eq_true rfl)) dX14_readStatement_314 (cl_k (K := K_) (k := K_ - cl_0) (show cl_0 + (K_ - cl_0) ≤ K_ by omega)) g hK (by decide) (by decide) (fx' := [(12, 38, q0_, .ref a_197), (14, 21, a0_, .int x_148), (12, 46, q0_, .int x_80), (14, 2, a0_, .ref q0_), (14, 16, a0_, .int o_), (14, 17, a0_, .int me_), (14, 26, a0_, .int br_)]) rfl (fun xr_200 fr_200 H locs kr_200 cr_200 ecr_200 mxr_200 kxr_200 hp hMr_200 g => ?_) (fun r_200 fr_200 H locs kr_200 cr_200 ecr_200 hp hMr_200 g => ?_)
                                      · have hG_201 := isN.frame hMr_200 go_.2.2.2.1 ma0_ ka0_ (by decide) (by decide) hG_194
                                        have hF_202 := FR.call (mds := []) (mas := []) hG_192 go_ mq0_ kq0_ rfl hp.1
                                        have hpk := hp.2
                                        subst hQ
                                        exact leavesX hempty hlocks (fun t ht hW => g_thrZ g hK mxr_200 kxr_200 ⟨hF_202, (by omega)⟩ ht hW) g.2.2.1.2.2
                                      · obtain ⟨hx_203, x_204, h_205, hF_206⟩ := hp
                                        have hG_207 := isN.frame hMr_200 go_.2.2.2.1 ma0_ ka0_ (by decide) (by decide) hG_194
                                        obtain ⟨V_208, E_209, hV_210, hF_211, hE_212, hX_213, hw_214, hv_215, hP_216, hn_217, hk_218, hc_219⟩ := rd_use hx_203 hE_195
                                        have hF_220 := FR.call (mds := []) (mas := []) hG_192 go_ mq0_ kq0_ rfl hF_211
                                        have mxE_209 : E_209 ≤ 1202 := by have h9 := cF_le g ma0_ ka0_; have h8 : cF _ _ = _ := hE_212; omega
                                        have hsi_221 := SI.nodes hsi_90 hX_213 hw_214
                                        have hsi_221n : (V_208.n 46).toInt = (V_85.n 46).toInt := by rw [exN.n46 hX_213]
                                        have hst_222 := ST.ex_ (hN_87).2.2.2.2.1 (exN.toS hX_213) hlt_92
                                        have hd_223 := ((fun _ _ => rfl) _ hlt_92).trans hd_89
                                        have hlt_224 := Int.lt_of_lt_of_le hlt_92 ((exN.toS hX_213)).2.2.2.2.1
                                        have hck_225 : cr_200 ≤ K_ := by omega
                                        have b_226 : bd 0 2499 r_200 := ⟨hv_215.1, (by have h9 := hv_215.2.1; omega)⟩
                                        have he_227 := EV.up hv_215 (h' := 13) (by decide)
                                        have g := g.more hF_206
                                        have gp_228 := g
                                        have go_ := g
                                        refine g_iastX hx hb hK g ma_197 ka_197 (by decide) rfl (in_bd h_79 (by decide)) (bd_sub b_226 (by decide)) (by decide) dX14_readStatement_317 (fun f H locs hM_229 u_232 g => ?_)
                                        have hG_230 := isN.frame hM_229 go_.2.2.2.1 ma0_ ka0_ (by decide) (by decide) hG_207
                                        have hG_231 := cEq.frame hM_229 go_.2.2.2.1 ma0_ ka0_ (by decide) (by decide) hE_212
                                        have hV_233 := isV.ui hV_210 gp_228 2 rfl mq0_ kq0_ rfl u_232
                                        have hF_234 := FR.arr hF_220 gp_228 2 rfl mq0_ kq0_ rfl rfl u_232.1
                                        obtain ⟨V_235, hV_236, hsi_237, hst_238, hne_240, hne_240b, hl_241⟩ : ∃ V1 : PV, isV f q0_ V1 ∧ SI V_ δ_ V1 D_88 (fun k => U_ k ∨ k = r_76.toNatClampNeg) ∧ ST V1 r_76.toNatClampNeg (1 : Int32) ((-1) : Int32) ((-1) : Int32) ((-1) : Int32) r_200 ((-1) : Int32) ((-1) : Int32) (-1) me_ ∧ (V1.n 57).toInt = (V_208.n 57).toInt ∧ (V1.n 46).toInt = (V_208.n 46).toInt ∧ EV V1 r_200 13 o_.toNatClampNeg := ⟨_, hV_233, SI.upd hsi_221 (by decide) (by rw [tnZ h_79.1]; omega) (Or.inr rfl), ST.s38 hst_222, rfl, rfl, (EV.ui_ (j := 38) (by decide)).mpr he_227⟩
                                        have hlt_239 : ((r_76.toNatClampNeg : Nat) : Int) < (V_235.n 46).toInt := by rw [hne_240b]; exact hlt_224
                                        refine lv_aload_n hx hb dX14_readStatement_318 rfl (lv_at hl 5 rfl) ?_
                                        refine lv_bipush (v := 59) hx hb dX14_readStatement_319 (by decide) ?_
                                        have go_ := g
                                        refine g_callEv (As := [.int 59]) (rest := []) ⟨hx, hb, hml, hown, hts⟩ (r_X14_sign_2 l dC dI L kd tys f H.size g.2.2.2.1 adK adV a0_ ma0_ ka0_ 59 x_204 h_205 (g.fcts [1] rfl)) (cwV 1 hts (gV_ t_2431 t_2433 t_107 t_198 t_2434) rfl rfl rfl (by decide +kernel) ⟨(show 7 + 1 ≤ N + 1 + 493 by omega), (show 8 + (2 + 11) + 155 ≤ 60 * (N + 1) + 28500 by omega)⟩) (pre3VA g hK hAm ma0_ ka0_ (by decide) (q := (RX14, TX14, 67)) rfl) rfl hl.1 rfl (lv_room (Nat.le_of_ble_eq_true rfl)) dX14_readStatement_321 (cl_f hck_225) g hK (by decide) (by decide) (fx' := [(14, 25, a0_, .int op_), (12, 38, q0_, .ref a_197), (14, 21, a0_, .int x_148), (12, 46, q0_, .int x_80), (14, 2, a0_, .ref q0_), (14, 16, a0_, .int o_), (14, 17, a0_, .int me_), (14, 26, a0_, .int br_)]) rfl (fun xr_242 fr_242 H locs mxr_242 kxr_242 hp hMr_242 g => ?_) (fun fr_242 H locs hp hMr_242 g => ?_)
                                        · have hG_243 := isN.frame hMr_242 go_.2.2.2.1 ma0_ ka0_ (by decide) (by decide) hG_230
                                          have hG_244 := isV.frame hMr_242 go_.2.2.2.1 mq0_ kq0_ (by decide) (by decide) hV_236
                                          have hG_245 := FR.frame hMr_242 go_.2.2.2.1 mq0_ kq0_ (by decide) (by decide) hF_234
                                          subst hQ
                                          exact leavesX hempty hlocks (fun t ht hW => g_thrZ g hK mxr_242 kxr_242 ⟨hG_245, (by omega)⟩ ht hW) g.2.2.1.2.2
                                        · obtain ⟨hx_246, h_247, x_248, h_249, hF_250⟩ := hp
                                          have hG_251 := isN.frame hMr_242 go_.2.2.2.1 ma0_ ka0_ (by decide) (by decide) hG_230
                                          have hG_252 := isV.frame hMr_242 go_.2.2.2.1 mq0_ kq0_ (by decide) (by decide) hV_236
                                          have hG_253 := FR.frame hMr_242 go_.2.2.2.1 mq0_ kq0_ (by decide) (by decide) hF_234
                                          obtain ⟨E_254, hE_254⟩ : ∃ E : Int, cEq fr_242 a0_ E := ⟨_, rfl⟩
                                          have mxE_254 : E_254 ≤ 1202 := by have h9 := cF_le g ma0_ ka0_; have h8 : cF _ _ = _ := hE_254; omega
                                          have lE_254 : E_209 + 1 ≤ E_254 := by have h9 := hx_246; have h8 : cF _ _ = _ := hE_254; have h7 : cF _ _ = _ := hG_231; omega
                                          have b_255 : bd 0 1200 x_204 := eqX rfl h_205 h_247 (by decide)
                                          have g := g.more hF_250
                                          refine lv_aload_n hx hb dX14_readStatement_324 rfl (lv_at hl 5 rfl) ?_
                                          refine g_getr (K := 213) (C := RX14) (T := TX14) (N := 67) hx hb hts (mc_ inX14) hown hK g ma0_ ka0_ (by decide) rfl 18 (by decide) rfl (hts _ (List.mem_cons_of_mem _ t_2164)) (fun _ h9 => h9) rfl dX14_readStatement_325 (fun a_256 ma_256 ka_256 g => ?_)
                                          refine lv_aload_n hx hb dX14_readStatement_328 rfl (lv_at hl 5 rfl) ?_
                                          refine g_geti (C := RX14) (T := TX14) (N := 67) hx hb hts (mc_ inX14) hown hK g ma0_ ka0_ (by decide) rfl 20 (by decide) rfl (hts _ (List.mem_cons_of_mem _ t_2166)) (fun _ h9 => h9) rfl dX14_readStatement_329 (fun x_257 bx_257 g => ?_)
                                          refine lv_aload_n hx hb dX14_readStatement_332 rfl (lv_at hl 5 rfl) ?_
                                          refine g_getk (C := RX14) (T := TX14) (N := 67) hx hb hts (mc_ inX14) hown hK g rfl 21 (by decide) rfl (hts _ (List.mem_cons_of_mem _ t_2167)) (fun _ h9 => h9) 5 rfl dX14_readStatement_333 ?_
                                          refine lv_iadd hx hb dX14_readStatement_336 ?_
                                          refine lv_topi (fun y_258 ey_258 => ?_)
                                          have ty_258 := add_bd ey_258 bx_257 b_157 (by decide)
                                          have b_259 : bd 0 10 y_258 := add_rg ty_258 bx_257 b_157 (by decide)
                                          refine lv_lload hx hb dX14_readStatement_337 (lv_at hl 1 rfl) ?_
                                          have go_ := g
                                          refine g_last hx hb hK g ma_256 ka_256 (by decide) rfl (in_bd b_259 (by decide)) (by decide) dX14_readStatement_339 (fun f H locs hM_260 g => ?_)
                                          have hG_261 := isV.frame hM_260 go_.2.2.2.1 mq0_ kq0_ (by decide) (by decide) hG_252
                                          have hG_262 := FR.frame hM_260 go_.2.2.2.1 mq0_ kq0_ (by decide) (by decide) hG_253
                                          have hG_263 := cEq.frame hM_260 go_.2.2.2.1 ma0_ ka0_ (by decide) (by decide) hE_254
                                          refine lv_aload_n hx hb dX14_readStatement_340 rfl (lv_at hl 5 rfl) ?_
                                          refine g_getr (K := 214) (C := RX14) (T := TX14) (N := 67) hx hb hts (mc_ inX14) hown hK g ma0_ ka0_ (by decide) rfl 19 (by decide) rfl (hts _ (List.mem_cons_of_mem _ t_2165)) (fun _ h9 => h9) rfl dX14_readStatement_341 (fun a_264 ma_264 ka_264 g => ?_)
                                          refine lv_aload_n hx hb dX14_readStatement_344 rfl (lv_at hl 5 rfl) ?_
                                          refine g_getk (C := RX14) (T := TX14) (N := 67) hx hb hts (mc_ inX14) hown hK g rfl 20 (by decide) rfl (hts _ (List.mem_cons_of_mem _ t_2166)) (fun _ h9 => h9) 1 rfl dX14_readStatement_345 ?_
                                          refine lv_aload_n hx hb dX14_readStatement_348 rfl (lv_at hl 5 rfl) ?_
                                          refine g_getk (C := RX14) (T := TX14) (N := 67) hx hb hts (mc_ inX14) hown hK g rfl 21 (by decide) rfl (hts _ (List.mem_cons_of_mem _ t_2167)) (fun _ h9 => h9) 6 rfl dX14_readStatement_349 ?_
                                          refine lv_iadd hx hb dX14_readStatement_352 ?_
                                          refine lv_topi (fun y_265 ey_265 => ?_)
                                          obtain rfl : y_258 = y_265 := ey_258.trans ey_265.symm
                                          refine lv_lload hx hb dX14_readStatement_353 (lv_at hl 0 rfl) ?_
                                          have go_ := g
                                          refine g_last hx hb hK g ma_264 ka_264 (by decide) rfl (in_bd b_259 (by decide)) (by decide) dX14_readStatement_355 (fun f H locs hM_266 g => ?_)
                                          have hG_267 := isV.frame hM_266 go_.2.2.2.1 mq0_ kq0_ (by decide) (by decide) hG_261
                                          have hG_268 := FR.frame hM_266 go_.2.2.2.1 mq0_ kq0_ (by decide) (by decide) hG_262
                                          have hG_269 := cEq.frame hM_266 go_.2.2.2.1 ma0_ ka0_ (by decide) (by decide) hG_263
                                          refine lv_aload_n hx hb dX14_readStatement_356 rfl (lv_at hl 5 rfl) ?_
                                          refine g_getk (C := RX14) (T := TX14) (N := 67) hx hb hts (mc_ inX14) hown hK g rfl 2 (by decide) rfl (hts _ (List.mem_cons_of_mem _ t_2148)) (fun _ h9 => h9) 8 rfl dX14_readStatement_357 ?_
                                          refine g_getr (K := 190) (C := RX12) (T := TX12) (N := 60) hx hb hts (mc_ inX12) hown hK g mq0_ kq0_ (by decide) rfl 35 (by decide) rfl (hts _ (List.mem_cons_of_mem _ t_1975)) (fun _ h9 => h9) rfl dX14_readStatement_360 (fun a_270 ma_270 ka_270 g => ?_)
                                          refine lv_iload_n hx hb dX14_readStatement_363 rfl (lv_at hl 2 rfl) ?_
                                          refine lv_aload_n hx hb dX14_readStatement_364 rfl (lv_at hl 5 rfl) ?_
                                          refine g_getk (C := RX14) (T := TX14) (N := 67) hx hb hts (mc_ inX14) hown hK g rfl 21 (by decide) rfl (hts _ (List.mem_cons_of_mem _ t_2167)) (fun _ h9 => h9) 7 rfl dX14_readStatement_365 ?_
                                          have gp_271 := g
                                          have go_ := g
                                          refine g_iastX hx hb hK g ma_270 ka_270 (by decide) rfl (in_bd h_79 (by decide)) (bd_sub b_157 (by decide)) (by decide) dX14_readStatement_368 (fun f H locs hM_272 u_274 g => ?_)
                                          have hG_273 := cEq.frame hM_272 go_.2.2.2.1 ma0_ ka0_ (by decide) (by decide) hG_269
                                          have hV_275 := isV.ui hG_267 gp_271 0 rfl mq0_ kq0_ rfl u_274
                                          have hF_276 := FR.arr hG_268 gp_271 0 rfl mq0_ kq0_ rfl rfl u_274.1
                                          obtain ⟨V_277, hV_278, hsi_279, hst_280, hne_282, hne_282b, hl_283⟩ : ∃ V1 : PV, isV f q0_ V1 ∧ SI V_ δ_ V1 D_88 (fun k => U_ k ∨ k = r_76.toNatClampNeg) ∧ ST V1 r_76.toNatClampNeg (1 : Int32) x_148 ((-1) : Int32) ((-1) : Int32) r_200 ((-1) : Int32) ((-1) : Int32) (-1) me_ ∧ (V1.n 57).toInt = (V_235.n 57).toInt ∧ (V1.n 46).toInt = (V_235.n 46).toInt ∧ EV V1 r_200 13 o_.toNatClampNeg := ⟨_, hV_275, SI.upd hsi_237 (by decide) (by rw [tnZ h_79.1]; omega) (Or.inr rfl), ST.s35 hst_238, rfl, rfl, (EV.ui_ (j := 35) (by decide)).mpr hl_241⟩
                                          have hlt_281 : ((r_76.toNatClampNeg : Nat) : Int) < (V_277.n 46).toInt := by rw [hne_282b]; exact hlt_239
                                          refine lv_aload_n hx hb dX14_readStatement_369 rfl (lv_at hl 5 rfl) ?_
                                          refine lv_dup hx hb dX14_readStatement_370 rfl ?_
                                          refine g_getk (C := RX14) (T := TX14) (N := 67) hx hb hts (mc_ inX14) hown hK g rfl 21 (by decide) rfl (hts _ (List.mem_cons_of_mem _ t_2167)) (fun _ h9 => h9) 7 rfl dX14_readStatement_371 ?_
                                          refine lv_iconst (v := 1) hx hb dX14_readStatement_374 (by decide) ?_
                                          refine lv_iadd hx hb dX14_readStatement_375 ?_
                                          refine lv_topi (fun y_284 ey_284 => ?_)
                                          have ty_284 := add_bd ey_284 b_157 kb_1 (by decide)
                                          have b_285 : bd 1 8 y_284 := add_rg ty_284 b_157 kb_1 (by decide)
                                          have go_ := g
                                          refine g_put (C := RX14) (T := TX14) (N := 67) hx hb hts (mc_ inX14) tyX14 tyX14_ok nmX14 hown hK g ma0_ ka0_ (by decide) rfl 21 (by decide) (hts _ (List.mem_cons_of_mem _ t_2167)) (fun _ h9 => h9) rfl rfl (okV_i (bd_sub b_285 (by decide))) rfl rfl (by decide) (Or.inr (Or.inl (by decide))) (fx' := [(12, 35, q0_, .ref a_270), (14, 19, a0_, .ref a_264), (14, 20, a0_, .int x_257), (14, 18, a0_, .ref a_256), (14, 10, a0_, .int x_248), (14, 25, a0_, .int op_), (12, 38, q0_, .ref a_197), (12, 46, q0_, .int x_80), (14, 2, a0_, .ref q0_), (14, 16, a0_, .int o_), (14, 17, a0_, .int me_), (14, 26, a0_, .int br_)]) rfl dX14_readStatement_376 (fun f H locs hM_286 g => ?_)
                                          have hG_287 := cEq.frame hM_286 go_.2.2.2.1 ma0_ ka0_ (by decide) (by decide) hG_273
                                          have hG_288 := isV.frame hM_286 go_.2.2.2.1 mq0_ kq0_ (by decide) (by decide) hV_278
                                          have hG_289 := FR.frame hM_286 go_.2.2.2.1 mq0_ kq0_ (by decide) (by decide) hF_276
                                          refine lv_iload_n hx hb dX14_readStatement_379 rfl (lv_at hl 2 rfl) ?_
                                          have hok_290 := st_ok (d := o_.toNatClampNeg) hst_280 hd_223 (lv_bd bbr_) rfl (by rw [hsi_279.1.2.2.1 27 (by decide) (by decide)]; exact hm27) (by rw [hsi_279.1.1 18 (by decide) (by decide)]; exact hm18) (Or.inl (by decide)) (fun _ => ⟨(by have h9_0 := bbr_; unfold bd at h9_0; have h9_1 := bme_; unfold bd at h9_1; have h9_2 := bo_; unfold bd at h9_2; have h9_3 := bop_; unfold bd at h9_3; have h9_4 := b_226; unfold bd at h9_4; have h9_5 := h_79; unfold bd at h9_5; have h9_6 := b_105; unfold bd at h9_6; have h9_7 := b_46; unfold bd at h9_7; have h9_8 := b_116; unfold bd at h9_8; have h9_9 := bx_117; unfold bd at h9_9; have h9_10 := b_157; unfold bd at h9_10; have h9_11 := b_196; unfold bd at h9_11; have h9_12 := h_190; unfold bd at h9_12; have h9_13 := b_255; unfold bd at h9_13; have h9_14 := h_249; unfold bd at h9_14; have h9_15 := bx_257; unfold bd at h9_15; have h9_16 := b_108; unfold bd at h9_16; have h9_17 := bx_50; unfold bd at h9_17; have h9_18 := h_81; unfold bd at h9_18; have h9_19 := b_182; unfold bd at h9_19; have h9_20 := b_259; unfold bd at h9_20; have h9_21 := b_285; unfold bd at h9_21; have h8_0 := kb_1; unfold bd at h8_0; have h8_1 := kb_12; unfold bd at h8_1; have h8_2 := kb_2; unfold bd at h8_2; have h8_3 := kb_8; unfold bd at h8_3; omega), (by have h9_0 := bbr_; unfold bd at h9_0; have h9_1 := bme_; unfold bd at h9_1; have h9_2 := bo_; unfold bd at h9_2; have h9_3 := bop_; unfold bd at h9_3; have h9_4 := b_226; unfold bd at h9_4; have h9_5 := h_79; unfold bd at h9_5; have h9_6 := b_105; unfold bd at h9_6; have h9_7 := b_46; unfold bd at h9_7; have h9_8 := b_116; unfold bd at h9_8; have h9_9 := bx_117; unfold bd at h9_9; have h9_10 := b_157; unfold bd at h9_10; have h9_11 := b_196; unfold bd at h9_11; have h9_12 := h_190; unfold bd at h9_12; have h9_13 := b_255; unfold bd at h9_13; have h9_14 := h_249; unfold bd at h9_14; have h9_15 := bx_257; unfold bd at h9_15; have h9_16 := b_108; unfold bd at h9_16; have h9_17 := bx_50; unfold bd at h9_17; have h9_18 := h_81; unfold bd at h9_18; have h9_19 := b_182; unfold bd at h9_19; have h9_20 := b_259; unfold bd at h9_20; have h9_21 := b_285; unfold bd at h9_21; have h8_0 := kb_1; unfold bd at h8_0; have h8_1 := kb_12; unfold bd at h8_1; have h8_2 := kb_2; unfold bd at h8_2; have h8_3 := kb_8; unfold bd at h8_3; omega)⟩) (fun h9 => absurd h9 (by decide)) (fun _ => (hl_283.up (by decide))) (fun h9 => absurd h9 (by decide)) (fun h9 => absurd h9 (by decide)) (fun h9 => absurd h9 (by decide))
                                          have hsi_291 := SI.close hsi_279 hok_290
                                          have h9c : cF f a0_ = _ := hG_287
                                          subst hQ
                                          exact iretX (v := r_76) hx hb hr (fun t ht hW => g_retZ g hK ⟨_, rfl, ⟨⟨_, _, hG_288, hG_289, hsi_291, ⟨(by omega), (by have h9 := hlt_281; rw [tnZ h_79.1] at h9; exact h9), hd_223, (by rw [hst_280.2.2.2.2.2.2.2.2])⟩, (by omega), (by omega), (by omega), (by omega)⟩, x_248, h_249, (g.fcts [6, 12, 5] rfl)⟩⟩ ht hW) g.2.2.1.2.2 dX14_readStatement_380 hlocks
                          · have b_292 : bd 0 9 r_130 := ⟨h_136.1, h_136.2.1⟩
                            have hv_293 : varOK V_85 r_130 o_.toNatClampNeg := Or.inl h_136
                            refine lv_iconst (v := (-1)) hx hb dX14_readStatement_243 (by decide) ?_
                            have kb_m1 : bd (-1) (-1) ((-1) : Int32) := ⟨by decide, by decide⟩
                            refine lv_icmp_ne (tgt := 251) hx hb dX14_readStatement_244 (by decide) (fun c_294 => ?_) (fun c_294 => ?_)
                            · have fc_294 := neq_f c_294
                              refine lv_iconst (v := 0) hx hb dX14_readStatement_251 (by decide) ?_
                              refine lv_iconst (v := 2) hx hb dX14_readStatement_252 (by decide) ?_
                              refine lv_aload_n hx hb dX14_readStatement_253 rfl (lv_at hl 3 rfl) ?_
                              refine g_getk (C := RX14) (T := TX14) (N := 67) hx hb hts (mc_ inX14) hown hK g rfl 8 (by decide) rfl (hts _ (List.mem_cons_of_mem _ t_2154)) (fun _ h9 => h9) 2 rfl dX14_readStatement_254 ?_
                              have hs_295 := sE_1 g 3 rfl (by have h9_0 := bbr_; unfold bd at h9_0; have h9_1 := bme_; unfold bd at h9_1; have h9_2 := bo_; unfold bd at h9_2; have h9_3 := bop_; unfold bd at h9_3; have h9_4 := b_292; unfold bd at h9_4; have h9_5 := h_79; unfold bd at h9_5; have h9_6 := b_105; unfold bd at h9_6; have h9_7 := b_46; unfold bd at h9_7; have h9_8 := b_116; unfold bd at h9_8; have h9_9 := bx_117; unfold bd at h9_9; have h9_10 := b_108; unfold bd at h9_10; have h9_11 := bx_50; unfold bd at h9_11; have h9_12 := h_81; unfold bd at h9_12; have h9_13 := h_100; unfold bd at h9_13; have h8_0 := kb_1; unfold bd at h8_0; have h8_1 := kb_12; unfold bd at h8_1; have h8_2 := kb_2; unfold bd at h8_2; have h8_3 := kb_m1; unfold bd at h8_3; omega)
                              have kb_0 : bd 0 0 (0 : Int32) := ⟨by decide, by decide⟩
                              have go_ := g
                              refine g_callEv (As := [.int 0, .int 2, .int x_117]) (rest := []) ⟨hx, hb, hml, hown, hts⟩ (r_X14_need_2 l dC dI L kd tys fr_130 H.size g.2.2.2.1 a0_ ma0_ ka0_ 0 kb_0 2 x_117) (cwV 3 hts (gV_ t_2403 t_2405 t_100 t_198 t_2406) rfl rfl rfl (by decide +kernel) ⟨(show 1 + 1 ≤ N + 1 + 493 by omega), (show 8 + (4 + 11) + 22 ≤ 60 * (N + 1) + 28500 by omega)⟩) (pre3V g hK ma0_ ka0_ (by decide) (q := (RX14, TX14, 67)) rfl) rfl hl.1 rfl (lv_room (Nat.le_of_ble_eq_true rfl)) dX14_readStatement_257 (cl_f hck_0) g hK (by decide) (by decide) (fx' := [(14, 13, a0_, .long x_127), (14, 12, a0_, .long x_126), (14, 8, a0_, .int x_117), (14, 6, a0_, .int x_109), (14, 10, a0_, .int x_99), (12, 46, q0_, .int x_80), (14, 2, a0_, .ref q0_), (14, 16, a0_, .int o_), (14, 25, a0_, .int op_), (14, 17, a0_, .int me_), (14, 26, a0_, .int br_)]) rfl (fun xr_296 fr_296 H locs mxr_296 kxr_296 hp hMr_296 g => ?_) (fun fr_296 H locs hp hMr_296 g => ?_)
                              · have hG_297 := FR.frame hMr_296 go_.2.2.2.1 mq0_ kq0_ (by decide) (by decide) hG_132
                                have hG_298 := isV.frame hMr_296 go_.2.2.2.1 mq0_ kq0_ (by decide) (by decide) hG_133
                                have hG_299 := cEq.frame hMr_296 go_.2.2.2.1 ma0_ ka0_ (by decide) (by decide) hG_134
                                have hG_300 := isN.frame hMr_296 go_.2.2.2.1 ma0_ ka0_ (by decide) (by decide) hG_135
                                subst hQ
                                exact leavesX hempty hlocks (fun t ht hW => g_thrZ g hK mxr_296 kxr_296 ⟨hG_297, (by omega)⟩ ht hW) g.2.2.1.2.2
                              · exact hp.elim
                            · have fc_294 := eq_f c_294
                              have b_301 : bd 0 (-1) r_130 := eqX fc_294 b_292 kb_m1 (by decide)
                              exact bd_no b_301 (by decide)
                          · have b_302 : bd 1000 1002 r_130 := ⟨h_136.1, h_136.2⟩
                            have hv_303 : varOK V_85 r_130 o_.toNatClampNeg := Or.inr (Or.inl h_136)
                            refine lv_iconst (v := (-1)) hx hb dX14_readStatement_243 (by decide) ?_
                            have kb_m1 : bd (-1) (-1) ((-1) : Int32) := ⟨by decide, by decide⟩
                            refine lv_icmp_ne (tgt := 251) hx hb dX14_readStatement_244 (by decide) (fun c_304 => ?_) (fun c_304 => ?_)
                            · have fc_304 := neq_f c_304
                              refine lv_iconst (v := 0) hx hb dX14_readStatement_251 (by decide) ?_
                              refine lv_iconst (v := 2) hx hb dX14_readStatement_252 (by decide) ?_
                              refine lv_aload_n hx hb dX14_readStatement_253 rfl (lv_at hl 3 rfl) ?_
                              refine g_getk (C := RX14) (T := TX14) (N := 67) hx hb hts (mc_ inX14) hown hK g rfl 8 (by decide) rfl (hts _ (List.mem_cons_of_mem _ t_2154)) (fun _ h9 => h9) 2 rfl dX14_readStatement_254 ?_
                              have hs_305 := sE_1 g 3 rfl (by have h9_0 := bbr_; unfold bd at h9_0; have h9_1 := bme_; unfold bd at h9_1; have h9_2 := bo_; unfold bd at h9_2; have h9_3 := bop_; unfold bd at h9_3; have h9_4 := b_302; unfold bd at h9_4; have h9_5 := h_79; unfold bd at h9_5; have h9_6 := b_105; unfold bd at h9_6; have h9_7 := b_46; unfold bd at h9_7; have h9_8 := b_116; unfold bd at h9_8; have h9_9 := bx_117; unfold bd at h9_9; have h9_10 := b_108; unfold bd at h9_10; have h9_11 := bx_50; unfold bd at h9_11; have h9_12 := h_81; unfold bd at h9_12; have h9_13 := h_100; unfold bd at h9_13; have h8_0 := kb_1; unfold bd at h8_0; have h8_1 := kb_12; unfold bd at h8_1; have h8_2 := kb_2; unfold bd at h8_2; have h8_3 := kb_m1; unfold bd at h8_3; omega)
                              have kb_0 : bd 0 0 (0 : Int32) := ⟨by decide, by decide⟩
                              have go_ := g
                              refine g_callEv (As := [.int 0, .int 2, .int x_117]) (rest := []) ⟨hx, hb, hml, hown, hts⟩ (r_X14_need_2 l dC dI L kd tys fr_130 H.size g.2.2.2.1 a0_ ma0_ ka0_ 0 kb_0 2 x_117) (cwV 3 hts (gV_ t_2403 t_2405 t_100 t_198 t_2406) rfl rfl rfl (by decide +kernel) ⟨(show 1 + 1 ≤ N + 1 + 493 by omega), (show 8 + (4 + 11) + 22 ≤ 60 * (N + 1) + 28500 by omega)⟩) (pre3V g hK ma0_ ka0_ (by decide) (q := (RX14, TX14, 67)) rfl) rfl hl.1 rfl (lv_room (Nat.le_of_ble_eq_true rfl)) dX14_readStatement_257 (cl_f hck_0) g hK (by decide) (by decide) (fx' := [(14, 13, a0_, .long x_127), (14, 12, a0_, .long x_126), (14, 8, a0_, .int x_117), (14, 6, a0_, .int x_109), (14, 10, a0_, .int x_99), (12, 46, q0_, .int x_80), (14, 2, a0_, .ref q0_), (14, 16, a0_, .int o_), (14, 25, a0_, .int op_), (14, 17, a0_, .int me_), (14, 26, a0_, .int br_)]) rfl (fun xr_306 fr_306 H locs mxr_306 kxr_306 hp hMr_306 g => ?_) (fun fr_306 H locs hp hMr_306 g => ?_)
                              · have hG_307 := FR.frame hMr_306 go_.2.2.2.1 mq0_ kq0_ (by decide) (by decide) hG_132
                                have hG_308 := isV.frame hMr_306 go_.2.2.2.1 mq0_ kq0_ (by decide) (by decide) hG_133
                                have hG_309 := cEq.frame hMr_306 go_.2.2.2.1 ma0_ ka0_ (by decide) (by decide) hG_134
                                have hG_310 := isN.frame hMr_306 go_.2.2.2.1 ma0_ ka0_ (by decide) (by decide) hG_135
                                subst hQ
                                exact leavesX hempty hlocks (fun t ht hW => g_thrZ g hK mxr_306 kxr_306 ⟨hG_307, (by omega)⟩ ht hW) g.2.2.1.2.2
                              · exact hp.elim
                            · have fc_304 := eq_f c_304
                              have b_311 : bd 1000 (-1) r_130 := eqX fc_304 b_302 kb_m1 (by decide)
                              exact bd_no b_311 (by decide)
                          · have b_312 : bd 2000 2007 r_130 := ⟨h_136.1, h_136.2⟩
                            have hv_313 : varOK V_85 r_130 o_.toNatClampNeg := Or.inr (Or.inr h_136)
                            refine lv_iconst (v := (-1)) hx hb dX14_readStatement_243 (by decide) ?_
                            have kb_m1 : bd (-1) (-1) ((-1) : Int32) := ⟨by decide, by decide⟩
                            refine lv_icmp_ne (tgt := 251) hx hb dX14_readStatement_244 (by decide) (fun c_314 => ?_) (fun c_314 => ?_)
                            · have fc_314 := neq_f c_314
                              refine lv_iconst (v := 0) hx hb dX14_readStatement_251 (by decide) ?_
                              refine lv_iconst (v := 2) hx hb dX14_readStatement_252 (by decide) ?_
                              refine lv_aload_n hx hb dX14_readStatement_253 rfl (lv_at hl 3 rfl) ?_
                              refine g_getk (C := RX14) (T := TX14) (N := 67) hx hb hts (mc_ inX14) hown hK g rfl 8 (by decide) rfl (hts _ (List.mem_cons_of_mem _ t_2154)) (fun _ h9 => h9) 2 rfl dX14_readStatement_254 ?_
                              have hs_315 := sE_1 g 3 rfl (by have h9_0 := bbr_; unfold bd at h9_0; have h9_1 := bme_; unfold bd at h9_1; have h9_2 := bo_; unfold bd at h9_2; have h9_3 := bop_; unfold bd at h9_3; have h9_4 := b_312; unfold bd at h9_4; have h9_5 := h_79; unfold bd at h9_5; have h9_6 := b_105; unfold bd at h9_6; have h9_7 := b_46; unfold bd at h9_7; have h9_8 := b_116; unfold bd at h9_8; have h9_9 := bx_117; unfold bd at h9_9; have h9_10 := b_108; unfold bd at h9_10; have h9_11 := bx_50; unfold bd at h9_11; have h9_12 := h_81; unfold bd at h9_12; have h9_13 := h_100; unfold bd at h9_13; have h8_0 := kb_1; unfold bd at h8_0; have h8_1 := kb_12; unfold bd at h8_1; have h8_2 := kb_2; unfold bd at h8_2; have h8_3 := kb_m1; unfold bd at h8_3; omega)
                              have kb_0 : bd 0 0 (0 : Int32) := ⟨by decide, by decide⟩
                              have go_ := g
                              refine g_callEv (As := [.int 0, .int 2, .int x_117]) (rest := []) ⟨hx, hb, hml, hown, hts⟩ (r_X14_need_2 l dC dI L kd tys fr_130 H.size g.2.2.2.1 a0_ ma0_ ka0_ 0 kb_0 2 x_117) (cwV 3 hts (gV_ t_2403 t_2405 t_100 t_198 t_2406) rfl rfl rfl (by decide +kernel) ⟨(show 1 + 1 ≤ N + 1 + 493 by omega), (show 8 + (4 + 11) + 22 ≤ 60 * (N + 1) + 28500 by omega)⟩) (pre3V g hK ma0_ ka0_ (by decide) (q := (RX14, TX14, 67)) rfl) rfl hl.1 rfl (lv_room (Nat.le_of_ble_eq_true rfl)) dX14_readStatement_257 (cl_f hck_0) g hK (by decide) (by decide) (fx' := [(14, 13, a0_, .long x_127), (14, 12, a0_, .long x_126), (14, 8, a0_, .int x_117), (14, 6, a0_, .int x_109), (14, 10, a0_, .int x_99), (12, 46, q0_, .int x_80), (14, 2, a0_, .ref q0_), (14, 16, a0_, .int o_), (14, 25, a0_, .int op_), (14, 17, a0_, .int me_), (14, 26, a0_, .int br_)]) rfl (fun xr_316 fr_316 H locs mxr_316 kxr_316 hp hMr_316 g => ?_) (fun fr_316 H locs hp hMr_316 g => ?_)
                              · have hG_317 := FR.frame hMr_316 go_.2.2.2.1 mq0_ kq0_ (by decide) (by decide) hG_132
                                have hG_318 := isV.frame hMr_316 go_.2.2.2.1 mq0_ kq0_ (by decide) (by decide) hG_133
                                have hG_319 := cEq.frame hMr_316 go_.2.2.2.1 ma0_ ka0_ (by decide) (by decide) hG_134
                                have hG_320 := isN.frame hMr_316 go_.2.2.2.1 ma0_ ka0_ (by decide) (by decide) hG_135
                                subst hQ
                                exact leavesX hempty hlocks (fun t ht hW => g_thrZ g hK mxr_316 kxr_316 ⟨hG_317, (by omega)⟩ ht hW) g.2.2.1.2.2
                              · exact hp.elim
                            · have fc_314 := eq_f c_314
                              have b_321 : bd 2000 (-1) r_130 := eqX fc_314 b_312 kb_m1 (by decide)
                              exact bd_no b_321 (by decide)
                    by_cases e_322 : x_47 = 13
                    · refine lv_topi (fun z_323 ez_323 => ?_)
                      obtain rfl : z_323 = 13 := ez_323.trans e_322
                      have kb_13 : bd 13 13 (13 : Int32) := ⟨by decide, by decide⟩
                      exact bd_no (eqX (eq_f e_322) b_49 kb_13 (lo := 13) (hi := 12) (by decide)) (by decide)
                    by_cases e_324 : x_47 = 14
                    · refine lv_topi (fun z_325 ez_325 => ?_)
                      obtain rfl : z_325 = 14 := ez_325.trans e_324
                      have kb_14 : bd 14 14 (14 : Int32) := ⟨by decide, by decide⟩
                      exact bd_no (eqX (eq_f e_324) b_49 kb_14 (lo := 14) (hi := 12) (by decide)) (by decide)
                    by_cases e_326 : x_47 = 15
                    · refine lv_topi (fun z_327 ez_327 => ?_)
                      obtain rfl : z_327 = 15 := ez_327.trans e_326
                      have kb_15 : bd 15 15 (15 : Int32) := ⟨by decide, by decide⟩
                      exact bd_no (eqX (eq_f e_326) b_49 kb_15 (lo := 15) (hi := 12) (by decide)) (by decide)
                    by_cases e_328 : x_47 = 16
                    · refine lv_topi (fun z_329 ez_329 => ?_)
                      obtain rfl : z_329 = 16 := ez_329.trans e_328
                      have kb_16 : bd 16 16 (16 : Int32) := ⟨by decide, by decide⟩
                      exact bd_no (eqX (eq_f e_328) b_49 kb_16 (lo := 16) (hi := 12) (by decide)) (by decide)
                    exact absurd (Int32.toInt_inj.mp (by have h9 := b_49; unfold bd at h9; have h8 : (12 : Int32).toInt = 12 := (by decide); omega) : x_47 = 12) e_106
              · have fc_72 := eq_f c_72
                have b_330 : bd 12 1 x_47 := eqX fc_72 b_49 kb_1 (by decide)
                exact bd_no b_330 (by decide)
          · have fc_59 := eq_f c_59
            exact absurd fc_59 fc_2
      · have fc_48 := neq_f c_48
        refine lv_aload_n hx hb dX14_readStatement_25 rfl (lv_at hl 0 rfl) ?_
        refine g_getk (C := RX14) (T := TX14) (N := 67) hx hb hts (mc_ inX14) hown hK g rfl 7 (by decide) rfl (hts _ (List.mem_cons_of_mem _ t_2153)) (fun _ h9 => h9) 0 rfl dX14_readStatement_26 ?_
        refine lv_bipush (v := 13) hx hb dX14_readStatement_29 (by decide) ?_
        have kb_13 : bd 13 13 (13 : Int32) := ⟨by decide, by decide⟩
        refine lv_icmp_eq (tgt := 69) hx hb dX14_readStatement_31 (by decide) (fun c_331 => ?_) (fun c_331 => ?_)
        · have fc_331 := eq_f c_331
          have b_332 : bd 13 13 x_47 := eqX fc_331 (bdT x_47) kb_13 (by decide)
          refine lv_iconst (v := 1) hx hb dX14_readStatement_69 (by decide) ?_
          refine lv_goto (tgt := 74) hx hb dX14_readStatement_70 (by decide) ?_
          refine lv_istore_n (lv' := [(1, .int 1), (0, .ref a0_)]) hx hb dX14_readStatement_74 rfl hl (by decide) rfl (fun ls hl => ?_)
          refine lv_aload_n hx hb dX14_readStatement_75 rfl (lv_at hl 1 rfl) ?_
          refine lv_iload_n hx hb dX14_readStatement_76 rfl (lv_at hl 0 rfl) ?_
          refine lv_iconst (v := 1) hx hb dX14_readStatement_77 (by decide) ?_
          refine lv_aload_n hx hb dX14_readStatement_78 rfl (lv_at hl 1 rfl) ?_
          refine g_geti (C := RX14) (T := TX14) (N := 67) hx hb hts (mc_ inX14) hown hK g ma0_ ka0_ (by decide) rfl 8 (by decide) rfl (hts _ (List.mem_cons_of_mem _ t_2154)) (fun _ h9 => h9) rfl dX14_readStatement_79 (fun x_333 bx_333 g => ?_)
          have hs_334 := sE_1 g 2 rfl (by have h9_0 := bbr_; unfold bd at h9_0; have h9_1 := bme_; unfold bd at h9_1; have h9_2 := bo_; unfold bd at h9_2; have h9_3 := bop_; unfold bd at h9_3; have h9_4 := bt_; unfold bd at h9_4; have h9_5 := b_46; unfold bd at h9_5; have h9_6 := bx_333; unfold bd at h9_6; have h9_7 := b_332; unfold bd at h9_7; have h8_0 := kb_1; unfold bd at h8_0; have h8_1 := kb_12; unfold bd at h8_1; have h8_2 := kb_13; unfold bd at h8_2; have h8_3 := kb_2; unfold bd at h8_3; omega)
          have go_ := g
          refine g_callEv (As := [.int 1, .int 1, .int x_333]) (rest := []) ⟨hx, hb, hml, hown, hts⟩ (r_X14_need_3 l dC dI L kd tys f0 s.heap.size g.2.2.2.1 a0_ ma0_ ka0_ 1 kb_1 1 x_333) (cwV 3 hts (gV_ t_2403 t_2405 t_100 t_198 t_2406) rfl rfl rfl (by decide +kernel) ⟨(show 0 + 1 ≤ N + 1 + 493 by omega), (show 8 + (4 + 11) + 0 ≤ 60 * (N + 1) + 28500 by omega)⟩) (pre3V g hK ma0_ ka0_ (by decide) (q := (RX14, TX14, 67)) rfl) rfl hl.1 rfl (lv_room (Nat.le_of_ble_eq_true rfl)) dX14_readStatement_82 (cl_f hck_0) g hK (by decide) (by decide) (fx' := [(14, 8, a0_, .int x_333), (14, 7, a0_, .int x_47), (14, 6, a0_, .int x_1), (14, 2, a0_, .ref q0_), (14, 16, a0_, .int o_), (14, 25, a0_, .int op_), (14, 10, a0_, .int t_), (14, 17, a0_, .int me_), (14, 26, a0_, .int br_)]) rfl (fun xr_335 fr_335 H locs mxr_335 kxr_335 hp hMr_335 g => ?_) (fun fr_335 H locs hp hMr_335 g => ?_)
          · have hG_336 := isV.frame hMr_335 go_.2.2.2.1 mq0_ kq0_ (by decide) (by decide) hV
            have hG_337 := FR.frame hMr_335 go_.2.2.2.1 mq0_ kq0_ (by decide) (by decide) FR.refl
            have hG_338 := cEq.frame hMr_335 go_.2.2.2.1 ma0_ ka0_ (by decide) (by decide) hC_0
            exact hp.elim
          · have hG_339 := isV.frame hMr_335 go_.2.2.2.1 mq0_ kq0_ (by decide) (by decide) hV
            have hG_340 := FR.frame hMr_335 go_.2.2.2.1 mq0_ kq0_ (by decide) (by decide) FR.refl
            have hG_341 := cEq.frame hMr_335 go_.2.2.2.1 ma0_ ka0_ (by decide) (by decide) hC_0
            refine lv_aload_n hx hb dX14_readStatement_85 rfl (lv_at hl 1 rfl) ?_
            refine g_getk (C := RX14) (T := TX14) (N := 67) hx hb hts (mc_ inX14) hown hK g rfl 6 (by decide) rfl (hts _ (List.mem_cons_of_mem _ t_2152)) (fun _ h9 => h9) 2 rfl dX14_readStatement_86 ?_
            refine lv_iconst (v := 1) hx hb dX14_readStatement_89 (by decide) ?_
            refine lv_icmp_ne (tgt := 98) hx hb dX14_readStatement_90 (by decide) (fun c_342 => ?_) (fun c_342 => ?_)
            · have fc_342 := neq_f c_342
              refine lv_aload_n hx hb dX14_readStatement_98 rfl (lv_at hl 1 rfl) ?_
              have hs_343 := sE_1 g 2 rfl (by have h9_0 := bbr_; unfold bd at h9_0; have h9_1 := bme_; unfold bd at h9_1; have h9_2 := bo_; unfold bd at h9_2; have h9_3 := bop_; unfold bd at h9_3; have h9_4 := bt_; unfold bd at h9_4; have h9_5 := b_46; unfold bd at h9_5; have h9_6 := bx_333; unfold bd at h9_6; have h9_7 := b_332; unfold bd at h9_7; have h8_0 := kb_1; unfold bd at h8_0; have h8_1 := kb_12; unfold bd at h8_1; have h8_2 := kb_13; unfold bd at h8_2; have h8_3 := kb_2; unfold bd at h8_3; omega)
              have go_ := g
              refine g_callEv (As := []) (rest := []) ⟨hx, hb, hml, hown, hts⟩ (r_X14_mayBegin_2 l dC dI L kd tys fr_335 H.size g.2.2.2.1 a0_ ma0_ ka0_ q0_ mq0_ kq0_ V_ hG_339 (g.fcts [3] rfl)) (cwV 0 hts (gV_ t_2558 t_2560 t_135 t_198 t_2561) rfl rfl rfl (by decide +kernel) ⟨(show 2 + 1 ≤ N + 1 + 493 by omega), (show 8 + (1 + 11) + 45 ≤ 60 * (N + 1) + 28500 by omega)⟩) (pre3V g hK ma0_ ka0_ (by decide) (q := (RX14, TX14, 67)) rfl) rfl hl.1 rfl (lv_room (Nat.le_of_ble_eq_true rfl)) dX14_readStatement_99 (cl_f hck_0) g hK (by decide) (by decide) (fx' := [(14, 8, a0_, .int x_333), (14, 7, a0_, .int x_47), (14, 6, a0_, .int x_1), (14, 2, a0_, .ref q0_), (14, 16, a0_, .int o_), (14, 25, a0_, .int op_), (14, 10, a0_, .int t_), (14, 17, a0_, .int me_), (14, 26, a0_, .int br_)]) rfl (fun xr_344 fr_344 H locs mxr_344 kxr_344 hp hMr_344 g => ?_) (fun fr_344 H locs hp hMr_344 g => ?_)
              · have hG_345 := cEq.frame hMr_344 go_.2.2.2.1 ma0_ ka0_ (by decide) (by decide) hG_341
                have hF_346 := FR.call (mds := []) (mas := []) hG_340 go_ mq0_ kq0_ rfl hp
                subst hQ
                exact leavesX hempty hlocks (fun t ht hW => g_thrZ g hK mxr_344 kxr_344 ⟨hF_346, (by omega)⟩ ht hW) g.2.2.1.2.2
              · obtain ⟨hx_347, hx_348, -⟩ := hp
                have hG_349 := cEq.frame hMr_344 go_.2.2.2.1 ma0_ ka0_ (by decide) (by decide) hG_341
                have hF_350 := FR.call (mds := []) (mas := []) hG_340 go_ mq0_ kq0_ rfl hx_348
                obtain ⟨V_351, hV_352, hN_353⟩ := hx_347
                have hsi_354 := SI.nodes hsi_0 hN_353.1 (hN_353.2.1 hsi_0.2.2.1)
                have hsi_354n : (V_351.n 46).toInt = (V_.n 46).toInt := by rw [exN.n46 hN_353.1]
                have hN_353n := hN_353.2.2
                refine lv_aload_n hx hb dX14_readStatement_102 rfl (lv_at hl 1 rfl) ?_
                refine g_getk (C := RX14) (T := TX14) (N := 67) hx hb hts (mc_ inX14) hown hK g rfl 7 (by decide) rfl (hts _ (List.mem_cons_of_mem _ t_2153)) (fun _ h9 => h9) 1 rfl dX14_readStatement_103 ?_
                refine lv_iconst (v := 1) hx hb dX14_readStatement_106 (by decide) ?_
                refine lv_icmp_ne (tgt := 115) hx hb dX14_readStatement_107 (by decide) (fun c_355 => ?_) (fun c_355 => ?_)
                · have fc_355 := neq_f c_355
                  refine lv_aload_n hx hb dX14_readStatement_115 rfl (lv_at hl 1 rfl) ?_
                  refine g_getk (C := RX14) (T := TX14) (N := 67) hx hb hts (mc_ inX14) hown hK g rfl 7 (by decide) rfl (hts _ (List.mem_cons_of_mem _ t_2153)) (fun _ h9 => h9) 1 rfl dX14_readStatement_116 ?_
                  refine lv_istore_n (lv' := [(2, .int x_47), (1, .int 1), (0, .ref a0_)]) hx hb dX14_readStatement_119 rfl hl (by decide) rfl (fun ls hl => ?_)
                  refine lv_aload_n hx hb dX14_readStatement_120 rfl (lv_at hl 2 rfl) ?_
                  refine lv_iload_n hx hb dX14_readStatement_121 rfl (lv_at hl 0 rfl) ?_
                  refine lv_bipush (v := 12) hx hb dX14_readStatement_122 (by decide) ?_
                  refine lv_icmp_ne (tgt := 131) hx hb dX14_readStatement_124 (by decide) (fun c_356 => ?_) (fun c_356 => ?_)
                  · have fc_356 := neq_f c_356
                    refine lv_iload_n hx hb dX14_readStatement_131 rfl (lv_at hl 0 rfl) ?_
                    refine lv_bipush (v := 13) hx hb dX14_readStatement_132 (by decide) ?_
                    refine lv_icmp_ne (tgt := 141) hx hb dX14_readStatement_134 (by decide) (fun c_357 => ?_) (fun c_357 => ?_)
                    · have fc_357 := neq_f c_357
                      have b_358 : bd 14 12 x_47 := neX fc_357 b_332 kb_13 (by decide)
                      exact bd_no b_358 (by decide)
                    · have fc_357 := eq_f c_357
                      refine lv_iconst (v := 3) hx hb dX14_readStatement_137 (by decide) ?_
                      refine lv_goto (tgt := 163) hx hb dX14_readStatement_138 (by decide) ?_
                      have hs_359 := sE_1 g 2 rfl (by have h9_0 := bbr_; unfold bd at h9_0; have h9_1 := bme_; unfold bd at h9_1; have h9_2 := bo_; unfold bd at h9_2; have h9_3 := bop_; unfold bd at h9_3; have h9_4 := bt_; unfold bd at h9_4; have h9_5 := b_46; unfold bd at h9_5; have h9_6 := bx_333; unfold bd at h9_6; have h9_7 := b_332; unfold bd at h9_7; have h8_0 := kb_1; unfold bd at h8_0; have h8_1 := kb_12; unfold bd at h8_1; have h8_2 := kb_13; unfold bd at h8_2; have h8_3 := kb_2; unfold bd at h8_3; omega)
                      have go_ := g
                      refine g_calli (va_runV (As := [.int 3]) (rest := []) ⟨hx, hb, hml, hown, hts⟩ (r_X14_statement l dC dI L kd tys fr_344 H.size g.2.2.2.1 a0_ ma0_ ka0_ 3 q0_ mq0_ kq0_ me_ bme_ V_351 hV_352 (by omega) (g.fcts [3, 7] rfl)) (cwV 1 hts (gV_ t_2554 t_2556 t_134 t_198 t_2557) rfl rfl rfl (by decide +kernel) ⟨(show 0 + 1 ≤ N + 1 + 493 by omega), (show 8 + (3 + 11) + 0 ≤ 60 * (N + 1) + 28500 by omega)⟩) (pre3V g hK ma0_ ka0_ (by decide) (q := (RX14, TX14, 67)) rfl) rfl rfl hl.1 rfl (lv_room (Nat.le_of_ble_eq_true rfl)) dX14_readStatement_163 (cl_f hck_0)) g hK (by decide) (by decide) (fx' := [(14, 8, a0_, .int x_333), (14, 7, a0_, .int x_47), (14, 6, a0_, .int x_1), (14, 2, a0_, .ref q0_), (14, 16, a0_, .int o_), (14, 25, a0_, .int op_), (14, 10, a0_, .int t_), (14, 17, a0_, .int me_), (14, 26, a0_, .int br_)]) rfl (fun r_360 fr_360 H locs hp hMr_360 g => ?_)
                      obtain ⟨hx_361, hx_362, h_363, x_364, h_365, hF_366⟩ := hp
                      have hG_367 := cEq.frame hMr_360 go_.2.2.2.1 ma0_ ka0_ (by decide) (by decide) hG_349
                      have hF_368 := FR.call (mds := []) (mas := []) hF_350 go_ mq0_ kq0_ rfl hx_362
                      obtain ⟨V_369, hV_370, hN_371⟩ := hx_361
                      obtain ⟨D_372, hd_373, hsi_374⟩ := SI.newE (b := br_.toNatClampNeg) hsi_354 hN_371 h_363.1
                      have hsi_374e : (V_369.n 57).toInt = (V_351.n 57).toInt := by rw [(hN_371).2.2.2.1]
                      have hsi_374f : r_360.toInt = (V_351.n 46).toInt := by rw [← (hN_371).2.1]
                      have hsi_374g := (hN_371).2.2.1
                      have hlt_376 : ((r_360.toNatClampNeg : Nat) : Int) < (V_369.n 46).toInt := by rw [tnZ h_363.1]; omega
                      have g := g.more hF_366
                      refine lv_istore_n (lv' := [(3, .int r_360), (2, .int x_47), (1, .int 1), (0, .ref a0_)]) hx hb dX14_readStatement_166 rfl hl (by decide) rfl (fun ls hl => ?_)
                      refine lv_aload_n hx hb dX14_readStatement_167 rfl (lv_at hl 3 rfl) ?_
                      have hs_377 := sE_1 g 3 rfl (by have h9_0 := bbr_; unfold bd at h9_0; have h9_1 := bme_; unfold bd at h9_1; have h9_2 := bo_; unfold bd at h9_2; have h9_3 := bop_; unfold bd at h9_3; have h9_4 := h_363; unfold bd at h9_4; have h9_5 := bt_; unfold bd at h9_5; have h9_6 := b_46; unfold bd at h9_6; have h9_7 := bx_333; unfold bd at h9_7; have h9_8 := h_365; unfold bd at h9_8; have h9_9 := b_332; unfold bd at h9_9; have h8_0 := kb_1; unfold bd at h8_0; have h8_1 := kb_12; unfold bd at h8_1; have h8_2 := kb_13; unfold bd at h8_2; have h8_3 := kb_2; unfold bd at h8_3; omega)
                      have go_ := g
                      refine g_callEv (As := []) (rest := []) ⟨hx, hb, hml, hown, hts⟩ (r_X14_next_2 l dC dI L kd tys fr_360 H.size g.2.2.2.1 adK adV a0_ ma0_ ka0_ t_ bt_ (g.fcts [7] rfl)) (cwV 0 hts (gV_ t_2411 t_2413 t_102 t_198 t_2414) rfl rfl rfl (by decide +kernel) ⟨(show 6 + 1 ≤ N + 1 + 493 by omega), (show 8 + (1 + 11) + 135 ≤ 60 * (N + 1) + 28500 by omega)⟩) (pre3VA g hK hAm ma0_ ka0_ (by decide) (q := (RX14, TX14, 67)) rfl) rfl hl.1 rfl (lv_room (Nat.le_of_ble_eq_true rfl)) dX14_readStatement_168 (cl_f hck_0) g hK (by decide) (by decide) (fx' := [(12, 46, q0_, .int x_364), (14, 2, a0_, .ref q0_), (14, 16, a0_, .int o_), (14, 25, a0_, .int op_), (14, 17, a0_, .int me_), (14, 26, a0_, .int br_)]) rfl (fun xr_378 fr_378 H locs mxr_378 kxr_378 hp hMr_378 g => ?_) (fun fr_378 H locs hp hMr_378 g => ?_)
                      · have hG_379 := FR.frame hMr_378 go_.2.2.2.1 mq0_ kq0_ (by decide) (by decide) hF_368
                        have hG_380 := isV.frame hMr_378 go_.2.2.2.1 mq0_ kq0_ (by decide) (by decide) hV_370
                        subst hQ
                        exact leavesX hempty hlocks (fun t ht hW => g_thrZ g hK mxr_378 kxr_378 ⟨hG_379, (by omega)⟩ ht hW) g.2.2.1.2.2
                      · obtain ⟨hx_381, h_382, x_383, h_384, hF_385⟩ := hp
                        have hG_386 := FR.frame hMr_378 go_.2.2.2.1 mq0_ kq0_ (by decide) (by decide) hF_368
                        have hG_387 := isV.frame hMr_378 go_.2.2.2.1 mq0_ kq0_ (by decide) (by decide) hV_370
                        obtain ⟨E_388, hE_388⟩ : ∃ E : Int, cEq fr_378 a0_ E := ⟨_, rfl⟩
                        have mxE_388 : E_388 ≤ 1202 := by have h9 := cF_le g ma0_ ka0_; have h8 : cF _ _ = _ := hE_388; omega
                        have lE_388 : (cF f0 a0_) + 1 ≤ E_388 := by have h9 := hx_381; have h8 : cF _ _ = _ := hE_388; have h7 : cF _ _ = _ := hG_367; have h6 := hs_377; have h5 := tk_c (f := fr_360) (t := a0_); omega
                        have b_389 : bd 0 1200 t_ := eqX rfl bt_ h_382 (by decide)
                        have g := g.more hF_385
                        refine lv_iload_n hx hb dX14_readStatement_171 rfl (lv_at hl 1 rfl) ?_
                        by_cases e_390 : x_47 = 12
                        · refine lv_topi (fun z_391 ez_391 => ?_)
                          obtain rfl : z_391 = 12 := ez_391.trans e_390
                          exact bd_no (eqX (eq_f e_390) b_332 kb_12 (lo := 13) (hi := 12) (by decide)) (by decide)
                        by_cases e_392 : x_47 = 13
                        · refine lv_topi (fun z_393 ez_393 => ?_)
                          obtain rfl : z_393 = 13 := ez_393.trans e_392
                          have b_394 : bd 13 13 x_47 := eqX (eq_f e_392) b_332 kb_13 (by decide)
                          refine lv_tableIn (off := 209) (tgt := 381) hx hb dX14_readStatement_172 (by decide) (by decide) rfl (by decide) ?_
                          refine lv_aload_n hx hb dX14_readStatement_381 rfl (lv_at hl 3 rfl) ?_
                          refine g_getk (C := RX14) (T := TX14) (N := 67) hx hb hts (mc_ inX14) hown hK g rfl 2 (by decide) rfl (hts _ (List.mem_cons_of_mem _ t_2148)) (fun _ h9 => h9) 2 rfl dX14_readStatement_382 ?_
                          refine g_getr (K := 193) (C := RX12) (T := TX12) (N := 60) hx hb hts (mc_ inX12) hown hK g mq0_ kq0_ (by decide) rfl 38 (by decide) rfl (hts _ (List.mem_cons_of_mem _ t_1981)) (fun _ h9 => h9) rfl dX14_readStatement_385 (fun a_395 ma_395 ka_395 g => ?_)
                          refine lv_iload_n hx hb dX14_readStatement_388 rfl (lv_at hl 0 rfl) ?_
                          refine lv_aload_n hx hb dX14_readStatement_389 rfl (lv_at hl 3 rfl) ?_
                          have qc__396 : cF fr_378 a0_ = _ := hE_388
                          have qc__397 : cF fr_378 a0_ = _ := hE_388
                          have go_ := g
                          refine g_callZi (As := []) (rest := [.int r_360, .ref a_395]) ⟨hx, hb, hml, hown, hts⟩ (r_X14_readEx l dC dI L kd tys fr_378 H.size g.2.2.2.1 adK adV a0_ ma0_ ka0_ q0_ mq0_ kq0_ V_369 o_ bo_ op_ bop_ x_383 h_384 hG_387 hsi_374.2.2.1 (by rw [hsi_374.1.2.2.1 0 (by decide) (by decide)]; exact ho) (by omega) (K_ - cl_0) (by omega) (g.fcts [3, 4, 5, 1] rfl)) (cwV 0 hts (gV_ t_2460 t_2462 t_112 t_198 t_2463) rfl rfl rfl (by decide +kernel) ⟨(show 486 + 1 ≤ N + 1 + 493 by omega), (show 8 + (3 + 11) + 28386 ≤ 60 * (N + 1) + 28500 by omega)⟩) (pre3VA g hK hAm ma0_ ka0_ (by decide) (q := (RX14, TX14, 67)) rfl) rfl hl.1 rfl (lv_room (Nat.le_of_ble_eq_true rfl)) dX14_readStatement_390 (cl_k (K := K_) (k := K_ - cl_0) (show cl_0 + (K_ - cl_0) ≤ K_ by omega)) g hK (by decide) (by decide) (fx' := [(12, 38, q0_, .ref a_395), (12, 46, q0_, .int x_364), (14, 2, a0_, .ref q0_), (14, 16, a0_, .int o_), (14, 17, a0_, .int me_), (14, 26, a0_, .int br_)]) rfl (fun xr_398 fr_398 H locs kr_398 cr_398 ecr_398 mxr_398 kxr_398 hp hMr_398 g => ?_) (fun r_398 fr_398 H locs kr_398 cr_398 ecr_398 hp hMr_398 g => ?_)
                          · have hF_399 := FR.call (mds := []) (mas := []) hG_386 go_ mq0_ kq0_ rfl hp.1
                            have hpk := hp.2
                            subst hQ
                            exact leavesX hempty hlocks (fun t ht hW => g_thrZ g hK mxr_398 kxr_398 ⟨hF_399, (by omega)⟩ ht hW) g.2.2.1.2.2
                          · obtain ⟨hx_400, x_401, h_402, hF_403⟩ := hp
                            obtain ⟨V_404, E_405, hV_406, hF_407, hE_408, hX_409, hw_410, hv_411, hP_412, hn_413, hk_414, hc_415⟩ := rd_use hx_400 hE_388
                            have hF_416 := FR.call (mds := []) (mas := []) hG_386 go_ mq0_ kq0_ rfl hF_407
                            have mxE_405 : E_405 ≤ 1202 := by have h9 := cF_le g ma0_ ka0_; have h8 : cF _ _ = _ := hE_408; omega
                            have hsi_417 := SI.nodes hsi_374 hX_409 hw_410
                            have hsi_417n : (V_404.n 46).toInt = (V_369.n 46).toInt := by rw [exN.n46 hX_409]
                            have hst_418 := ST.ex_ (hN_371).2.2.2.2.1 (exN.toS hX_409) hlt_376
                            have hd_419 := ((fun _ _ => rfl) _ hlt_376).trans hd_373
                            have hlt_420 := Int.lt_of_lt_of_le hlt_376 ((exN.toS hX_409)).2.2.2.2.1
                            have hck_421 : cr_398 ≤ K_ := by omega
                            have b_422 : bd 0 2499 r_398 := ⟨hv_411.1, (by have h9 := hv_411.2.1; omega)⟩
                            have he_423 := EV.up hv_411 (h' := 13) (by decide)
                            have g := g.more hF_403
                            have gp_424 := g
                            have go_ := g
                            refine g_iastX hx hb hK g ma_395 ka_395 (by decide) rfl (in_bd h_363 (by decide)) (bd_sub b_422 (by decide)) (by decide) dX14_readStatement_393 (fun f H locs hM_425 u_427 g => ?_)
                            have hG_426 := cEq.frame hM_425 go_.2.2.2.1 ma0_ ka0_ (by decide) (by decide) hE_408
                            have hV_428 := isV.ui hV_406 gp_424 2 rfl mq0_ kq0_ rfl u_427
                            have hF_429 := FR.arr hF_416 gp_424 2 rfl mq0_ kq0_ rfl rfl u_427.1
                            obtain ⟨V_430, hV_431, hsi_432, hst_433, hne_435, hne_435b, hl_436⟩ : ∃ V1 : PV, isV f q0_ V1 ∧ SI V_ δ_ V1 D_372 (fun k => U_ k ∨ k = r_360.toNatClampNeg) ∧ ST V1 r_360.toNatClampNeg (3 : Int32) ((-1) : Int32) ((-1) : Int32) ((-1) : Int32) r_398 ((-1) : Int32) ((-1) : Int32) (-1) me_ ∧ (V1.n 57).toInt = (V_404.n 57).toInt ∧ (V1.n 46).toInt = (V_404.n 46).toInt ∧ EV V1 r_398 13 o_.toNatClampNeg := ⟨_, hV_428, SI.upd hsi_417 (by decide) (by rw [tnZ h_363.1]; omega) (Or.inr rfl), ST.s38 hst_418, rfl, rfl, (EV.ui_ (j := 38) (by decide)).mpr he_423⟩
                            have hlt_434 : ((r_360.toNatClampNeg : Nat) : Int) < (V_430.n 46).toInt := by rw [hne_435b]; exact hlt_420
                            refine lv_aload_n hx hb dX14_readStatement_394 rfl (lv_at hl 3 rfl) ?_
                            refine g_getk (C := RX14) (T := TX14) (N := 67) hx hb hts (mc_ inX14) hown hK g rfl 2 (by decide) rfl (hts _ (List.mem_cons_of_mem _ t_2148)) (fun _ h9 => h9) 4 rfl dX14_readStatement_395 ?_
                            refine g_getr (K := 194) (C := RX12) (T := TX12) (N := 60) hx hb hts (mc_ inX12) hown hK g mq0_ kq0_ (by decide) rfl 39 (by decide) rfl (hts _ (List.mem_cons_of_mem _ t_1983)) (fun _ h9 => h9) rfl dX14_readStatement_398 (fun a_437 ma_437 ka_437 g => ?_)
                            refine lv_iload_n hx hb dX14_readStatement_401 rfl (lv_at hl 0 rfl) ?_
                            refine lv_aload_n hx hb dX14_readStatement_402 rfl (lv_at hl 3 rfl) ?_
                            have qc__438 : cF f a0_ = _ := hG_426
                            have qc__439 : cF f a0_ = _ := hG_426
                            have go_ := g
                            refine g_callZi (As := []) (rest := [.int r_360, .ref a_437]) ⟨hx, hb, hml, hown, hts⟩ (ih.1 l dC dI L kd tys f H.size g.2.2.2.1 adK adV a0_ ma0_ ka0_ q0_ mq0_ kq0_ V_430 D_372 (fun k => U_ k ∨ k = r_360.toNatClampNeg) o_ bo_ op_ bop_ x_401 h_402 me_ bme_ br_ (bd_sub bbr_ (by decide)) hV_431 (SI.rf hsi_432.2.2.1 hsi_432.2.2.2) (fun s9 h9 => h9.elim (fun h8 => Int.lt_of_lt_of_le (hU s9 h8) hsi_432.1.2.2.2.2.1) (fun h8 => by rw [h8]; exact hlt_434)) (by rw [hsi_432.1.2.2.1 0 (by decide) (by decide)]; exact ho) (by rw [hsi_432.1.2.2.1 27 (by decide) (by decide)]; exact hm27) (by rw [hsi_432.1.1 18 (by decide) (by decide)]; exact hm18) (by omega) (by omega) (by omega) (K_ - cr_398) (by omega) (by have h9_0 := bbr_; unfold bd at h9_0; have h9_1 := bme_; unfold bd at h9_1; have h9_2 := bo_; unfold bd at h9_2; have h9_3 := bop_; unfold bd at h9_3; have h9_4 := h_363; unfold bd at h9_4; have h9_5 := b_422; unfold bd at h9_5; have h9_6 := b_389; unfold bd at h9_6; have h9_7 := b_46; unfold bd at h9_7; have h9_8 := bx_333; unfold bd at h9_8; have h9_9 := h_365; unfold bd at h9_9; have h9_10 := h_384; unfold bd at h9_10; have h9_11 := h_402; unfold bd at h9_11; have h9_12 := b_394; unfold bd at h9_12; have h8_0 := kb_1; unfold bd at h8_0; have h8_1 := kb_12; unfold bd at h8_1; have h8_2 := kb_13; unfold bd at h8_2; have h8_3 := kb_2; unfold bd at h8_3; omega) (g.fcts [5, 6, 1, 2, 7, 8] rfl)) (cwV 0 hts (gV_ t_2542 t_2544 t_131 t_198 t_2545) rfl rfl rfl (by decide +kernel) ⟨(show N + 493 + 1 ≤ N + 1 + 493 by omega), (show 8 + (5 + 11) + (60 * N + 28500) ≤ 60 * (N + 1) + 28500 by omega)⟩) (pre3VA g hK hAm ma0_ ka0_ (by decide) (q := (RX14, TX14, 67)) rfl) rfl hl.1 rfl (lv_room (Nat.le_of_ble_eq_true rfl)) dX14_readStatement_403 (cl_k (K := K_) (k := K_ - cr_398) (show cr_398 + (K_ - cr_398) ≤ K_ by omega)) g hK (by decide) (by decide) (fx' := [(12, 39, q0_, .ref a_437), (12, 38, q0_, .ref a_395), (14, 2, a0_, .ref q0_), (14, 16, a0_, .int o_), (14, 17, a0_, .int me_)]) rfl (fun xr_440 fr_440 H locs kr_440 cr_440 ecr_440 mxr_440 kxr_440 hp hMr_440 g => ?_) (fun r_440 fr_440 H locs kr_440 cr_440 ecr_440 hp hMr_440 g => ?_)
                            · have hF_441 := FR.call (mds := []) (mas := []) hF_429 go_ mq0_ kq0_ rfl hp.1
                              have hpk := hp.2
                              subst hQ
                              exact leavesX hempty hlocks (fun t ht hW => g_thrZ g hK mxr_440 kxr_440 ⟨hF_441, (by omega)⟩ ht hW) g.2.2.1.2.2
                            · obtain ⟨hx_442, x_443, h_444, hF_445⟩ := hp
                              obtain ⟨V_446, D_447, E_448, hV_449, hF_450, hE_451, hsi_452, hP_453, hn_454, hs_455, hk_456, hc_457⟩ := rds_use hx_442 hG_426
                              have hF_458 := FR.call (mds := []) (mas := []) hF_429 go_ mq0_ kq0_ rfl hF_450
                              have mxE_448 : E_448 ≤ 1202 := by have h9 := cF_le g ma0_ ka0_; have h8 : cF _ _ = _ := hE_451; omega
                              have hsi_459 := SI.call hsi_432 hsi_452
                              have hsi_459l := hsi_452.1.2.2.2.2.1
                              have hl_460 := exS.ev hsi_452.1 hl_436
                              have hst_461 := ST.ex_ hst_433 hsi_452.1 hlt_434
                              have hd_462 := (hsi_452.2.1 _ hlt_434).trans hd_419
                              have hlt_463 := Int.lt_of_lt_of_le hlt_434 (hsi_452.1).2.2.2.2.1
                              have hck_464 : cr_440 ≤ K_ := by omega
                              have b_465 : bd (-1) 699 r_440 := (ts_bd hP_453 (by omega))
                              have g := g.more hF_445
                              have gp_466 := g
                              have go_ := g
                              refine g_iastX hx hb hK g ma_437 ka_437 (by decide) rfl (in_bd h_363 (by decide)) (bd_sub b_465 (by decide)) (by decide) dX14_readStatement_406 (fun f H locs hM_467 u_469 g => ?_)
                              have hG_468 := cEq.frame hM_467 go_.2.2.2.1 ma0_ ka0_ (by decide) (by decide) hE_451
                              have hV_470 := isV.ui hV_449 gp_466 3 rfl mq0_ kq0_ rfl u_469
                              have hF_471 := FR.arr hF_458 gp_466 3 rfl mq0_ kq0_ rfl rfl u_469.1
                              obtain ⟨V_472, hV_473, hsi_474, hst_475, hne_477, hne_477b, hl_478, hl_479⟩ : ∃ V1 : PV, isV f q0_ V1 ∧ SI V_ δ_ V1 D_447 (fun k => U_ k ∨ k = r_360.toNatClampNeg) ∧ ST V1 r_360.toNatClampNeg (3 : Int32) ((-1) : Int32) ((-1) : Int32) ((-1) : Int32) r_398 r_440 ((-1) : Int32) (-1) me_ ∧ (V1.n 57).toInt = (V_446.n 57).toInt ∧ (V1.n 46).toInt = (V_446.n 46).toInt ∧ EV V1 r_398 13 o_.toNatClampNeg ∧ TS V1 D_447 r_440 (br_.toNatClampNeg + 1) me_.toNatClampNeg := ⟨_, hV_470, SI.upd hsi_459 (by decide) (by rw [tnZ h_363.1]; omega) (Or.inr rfl), ST.s39 hst_461, rfl, rfl, (EV.ui_ (j := 39) (by decide)).mpr hl_460, TS.ui_ (by decide) hP_453⟩
                              have hlt_476 : ((r_360.toNatClampNeg : Nat) : Int) < (V_472.n 46).toInt := by rw [hne_477b]; exact hlt_463
                              refine lv_aload_n hx hb dX14_readStatement_407 rfl (lv_at hl 3 rfl) ?_
                              refine lv_bipush (v := 14) hx hb dX14_readStatement_408 (by decide) ?_
                              have go_ := g
                              refine g_callEi (As := [.int 14]) (rest := []) ⟨hx, hb, hml, hown, hts⟩ (r_X14_takes_2 l dC dI L kd tys f H.size g.2.2.2.1 adK adV a0_ ma0_ ka0_ 14 x_443 h_444 (g.fcts [2] rfl)) (cwV 1 hts (gV_ t_2423 t_2425 t_105 t_198 t_2426) rfl rfl rfl (by decide +kernel) ⟨(show 7 + 1 ≤ N + 1 + 493 by omega), (show 8 + (3 + 11) + 155 ≤ 60 * (N + 1) + 28500 by omega)⟩) (pre3VA g hK hAm ma0_ ka0_ (by decide) (q := (RX14, TX14, 67)) rfl) rfl hl.1 rfl (lv_room (Nat.le_of_ble_eq_true rfl)) dX14_readStatement_410 (cl_f hck_464) g hK (by decide) (by decide) (fx' := [(14, 25, a0_, .int op_), (14, 26, a0_, .int br_), (12, 39, q0_, .ref a_437), (12, 38, q0_, .ref a_395), (14, 2, a0_, .ref q0_), (14, 16, a0_, .int o_), (14, 17, a0_, .int me_)]) rfl (fun xr_480 fr_480 H locs mxr_480 kxr_480 hp hMr_480 g => ?_) (fun r_480 fr_480 H locs hp hMr_480 g => ?_)
                              · have hG_481 := isV.frame hMr_480 go_.2.2.2.1 mq0_ kq0_ (by decide) (by decide) hV_473
                                have hG_482 := FR.frame hMr_480 go_.2.2.2.1 mq0_ kq0_ (by decide) (by decide) hF_471
                                subst hQ
                                exact leavesX hempty hlocks (fun t ht hW => g_thrZ g hK mxr_480 kxr_480 ⟨hG_482, (by omega)⟩ ht hW) g.2.2.1.2.2
                              · rcases hp with ⟨hx_483, h_484, hF_485⟩ | ⟨hx_486, h_487, h_488, x_489, h_490, hF_491⟩
                                · have hG_492 := isV.frame hMr_480 go_.2.2.2.1 mq0_ kq0_ (by decide) (by decide) hV_473
                                  have hG_493 := FR.frame hMr_480 go_.2.2.2.1 mq0_ kq0_ (by decide) (by decide) hF_471
                                  obtain rfl : r_480 = 0 := h_484
                                  obtain ⟨E_494, hE_494⟩ : ∃ E : Int, cEq fr_480 a0_ E := ⟨_, rfl⟩
                                  have mxE_494 : E_494 ≤ 1202 := by have h9 := cF_le g ma0_ ka0_; have h8 : cF _ _ = _ := hE_494; omega
                                  have lE_494 : E_448 = E_494 := by have h9 := hx_483; have h8 : cF _ _ = _ := hE_494; have h7 : cF _ _ = _ := hG_468; omega
                                  have g := g.more hF_485
                                  refine lv_if_eq (tgt := 429) hx hb dX14_readStatement_413 (by decide) (fun c_ => ?_) (fun c_ => absurd (by decide) c_)
                                  refine lv_iload_n hx hb dX14_readStatement_429 rfl (lv_at hl 0 rfl) ?_
                                  have hok_495 := st_ok (d := o_.toNatClampNeg) hst_475 hd_462 (lv_bd bbr_) rfl (by rw [hsi_474.1.2.2.1 27 (by decide) (by decide)]; exact hm27) (by rw [hsi_474.1.1 18 (by decide) (by decide)]; exact hm18) (Or.inl (by decide)) (fun h9 => absurd h9 (by decide)) (fun h9 => absurd h9 (by decide)) (fun _ => (hl_478.up (by decide))) (fun _ => hl_479) (fun _ => (Or.inl (by decide))) (fun h9 => absurd h9 (by decide))
                                  have hsi_496 := SI.close hsi_474 hok_495
                                  have h9c : cF fr_480 a0_ = _ := hE_494
                                  subst hQ
                                  exact iretX (v := r_360) hx hb hr (fun t ht hW => g_retZ g hK ⟨_, rfl, ⟨⟨_, _, hG_492, hG_493, hsi_496, ⟨(by omega), (by have h9 := hlt_476; rw [tnZ h_363.1] at h9; exact h9), hd_462, (by rw [hst_475.2.2.2.2.2.2.2.2])⟩, (by omega), (by omega), (by omega), (by omega)⟩, x_443, h_444, (g.fcts [1, 2, 0] rfl)⟩⟩ ht hW) g.2.2.1.2.2 dX14_readStatement_430 hlocks
                                · have hG_497 := isV.frame hMr_480 go_.2.2.2.1 mq0_ kq0_ (by decide) (by decide) hV_473
                                  have hG_498 := FR.frame hMr_480 go_.2.2.2.1 mq0_ kq0_ (by decide) (by decide) hF_471
                                  obtain rfl : r_480 = 1 := h_487
                                  obtain ⟨E_499, hE_499⟩ : ∃ E : Int, cEq fr_480 a0_ E := ⟨_, rfl⟩
                                  have mxE_499 : E_499 ≤ 1202 := by have h9 := cF_le g ma0_ ka0_; have h8 : cF _ _ = _ := hE_499; omega
                                  have lE_499 : E_448 + 1 ≤ E_499 := by have h9 := hx_486; have h8 : cF _ _ = _ := hE_499; have h7 : cF _ _ = _ := hG_468; omega
                                  have b_500 : bd 0 1200 x_443 := eqX rfl h_444 h_488 (by decide)
                                  have g := g.more hF_491
                                  refine lv_if_eq (tgt := 429) hx hb dX14_readStatement_413 (by decide) (fun c_ => absurd c_ (by decide)) (fun c_ => ?_)
                                  refine lv_aload_n hx hb dX14_readStatement_416 rfl (lv_at hl 3 rfl) ?_
                                  refine g_getk (C := RX14) (T := TX14) (N := 67) hx hb hts (mc_ inX14) hown hK g rfl 2 (by decide) rfl (hts _ (List.mem_cons_of_mem _ t_2148)) (fun _ h9 => h9) 5 rfl dX14_readStatement_417 ?_
                                  refine g_getr (K := 195) (C := RX12) (T := TX12) (N := 60) hx hb hts (mc_ inX12) hown hK g mq0_ kq0_ (by decide) rfl 40 (by decide) rfl (hts _ (List.mem_cons_of_mem _ t_1985)) (fun _ h9 => h9) rfl dX14_readStatement_420 (fun a_501 ma_501 ka_501 g => ?_)
                                  refine lv_iload_n hx hb dX14_readStatement_423 rfl (lv_at hl 0 rfl) ?_
                                  refine lv_aload_n hx hb dX14_readStatement_424 rfl (lv_at hl 3 rfl) ?_
                                  have qc__502 : cF fr_480 a0_ = _ := hE_499
                                  have qc__503 : cF fr_480 a0_ = _ := hE_499
                                  have go_ := g
                                  refine g_callZi (As := []) (rest := [.int r_360, .ref a_501]) ⟨hx, hb, hml, hown, hts⟩ (ih.1 l dC dI L kd tys fr_480 H.size g.2.2.2.1 adK adV a0_ ma0_ ka0_ q0_ mq0_ kq0_ V_472 D_447 (fun k => U_ k ∨ k = r_360.toNatClampNeg) o_ bo_ op_ bop_ x_489 h_490 me_ bme_ br_ (bd_sub bbr_ (by decide)) hG_497 (SI.rf hsi_474.2.2.1 hsi_474.2.2.2) (fun s9 h9 => h9.elim (fun h8 => Int.lt_of_lt_of_le (hU s9 h8) hsi_474.1.2.2.2.2.1) (fun h8 => by rw [h8]; exact hlt_476)) (by rw [hsi_474.1.2.2.1 0 (by decide) (by decide)]; exact ho) (by rw [hsi_474.1.2.2.1 27 (by decide) (by decide)]; exact hm27) (by rw [hsi_474.1.1 18 (by decide) (by decide)]; exact hm18) (by omega) (by omega) (by omega) (K_ - cr_440) (by omega) (by have h9_0 := bbr_; unfold bd at h9_0; have h9_1 := bme_; unfold bd at h9_1; have h9_2 := bo_; unfold bd at h9_2; have h9_3 := bop_; unfold bd at h9_3; have h9_4 := h_363; unfold bd at h9_4; have h9_5 := b_422; unfold bd at h9_5; have h9_6 := b_465; unfold bd at h9_6; have h9_7 := b_389; unfold bd at h9_7; have h9_8 := b_46; unfold bd at h9_8; have h9_9 := bx_333; unfold bd at h9_9; have h9_10 := h_365; unfold bd at h9_10; have h9_11 := h_384; unfold bd at h9_11; have h9_12 := h_402; unfold bd at h9_12; have h9_13 := b_500; unfold bd at h9_13; have h9_14 := b_394; unfold bd at h9_14; have h9_15 := h_490; unfold bd at h9_15; have h8_0 := kb_1; unfold bd at h8_0; have h8_1 := kb_12; unfold bd at h8_1; have h8_2 := kb_13; unfold bd at h8_2; have h8_3 := kb_2; unfold bd at h8_3; omega) (g.fcts [6, 7, 2, 1, 8, 3] rfl)) (cwV 0 hts (gV_ t_2542 t_2544 t_131 t_198 t_2545) rfl rfl rfl (by decide +kernel) ⟨(show N + 493 + 1 ≤ N + 1 + 493 by omega), (show 8 + (5 + 11) + (60 * N + 28500) ≤ 60 * (N + 1) + 28500 by omega)⟩) (pre3VA g hK hAm ma0_ ka0_ (by decide) (q := (RX14, TX14, 67)) rfl) rfl hl.1 rfl (lv_room (Nat.le_of_ble_eq_true rfl)) dX14_readStatement_425 (cl_k (K := K_) (k := K_ - cr_440) (show cr_440 + (K_ - cr_440) ≤ K_ by omega)) g hK (by decide) (by decide) (fx' := [(12, 40, q0_, .ref a_501), (12, 39, q0_, .ref a_437), (12, 38, q0_, .ref a_395), (14, 2, a0_, .ref q0_), (14, 16, a0_, .int o_), (14, 17, a0_, .int me_)]) rfl (fun xr_504 fr_504 H locs kr_504 cr_504 ecr_504 mxr_504 kxr_504 hp hMr_504 g => ?_) (fun r_504 fr_504 H locs kr_504 cr_504 ecr_504 hp hMr_504 g => ?_)
                                  · have hF_505 := FR.call (mds := []) (mas := []) hG_498 go_ mq0_ kq0_ rfl hp.1
                                    have hpk := hp.2
                                    subst hQ
                                    exact leavesX hempty hlocks (fun t ht hW => g_thrZ g hK mxr_504 kxr_504 ⟨hF_505, (by omega)⟩ ht hW) g.2.2.1.2.2
                                  · obtain ⟨hx_506, x_507, h_508, hF_509⟩ := hp
                                    obtain ⟨V_510, D_511, E_512, hV_513, hF_514, hE_515, hsi_516, hP_517, hn_518, hs_519, hk_520, hc_521⟩ := rds_use hx_506 hE_499
                                    have hF_522 := FR.call (mds := []) (mas := []) hG_498 go_ mq0_ kq0_ rfl hF_514
                                    have mxE_512 : E_512 ≤ 1202 := by have h9 := cF_le g ma0_ ka0_; have h8 : cF _ _ = _ := hE_515; omega
                                    have hsi_523 := SI.call hsi_474 hsi_516
                                    have hsi_523l := hsi_516.1.2.2.2.2.1
                                    have hl_524 := exS.ev hsi_516.1 hl_478
                                    have hl_525 := TS.ex hsi_516.1 hsi_516.2.1 hl_479
                                    have hst_526 := ST.ex_ hst_475 hsi_516.1 hlt_476
                                    have hd_527 := (hsi_516.2.1 _ hlt_476).trans hd_462
                                    have hlt_528 := Int.lt_of_lt_of_le hlt_476 (hsi_516.1).2.2.2.2.1
                                    have hck_529 : cr_504 ≤ K_ := by omega
                                    have b_530 : bd (-1) 699 r_504 := (ts_bd hP_517 (by omega))
                                    have g := g.more hF_509
                                    have gp_531 := g
                                    have go_ := g
                                    refine g_iastX hx hb hK g ma_501 ka_501 (by decide) rfl (in_bd h_363 (by decide)) (bd_sub b_530 (by decide)) (by decide) dX14_readStatement_428 (fun f H locs hM_532 u_534 g => ?_)
                                    have hG_533 := cEq.frame hM_532 go_.2.2.2.1 ma0_ ka0_ (by decide) (by decide) hE_515
                                    have hV_535 := isV.ui hV_513 gp_531 3 rfl mq0_ kq0_ rfl u_534
                                    have hF_536 := FR.arr hF_522 gp_531 3 rfl mq0_ kq0_ rfl rfl u_534.1
                                    obtain ⟨V_537, hV_538, hsi_539, hst_540, hne_542, hne_542b, hl_543, hl_544, hl_545⟩ : ∃ V1 : PV, isV f q0_ V1 ∧ SI V_ δ_ V1 D_511 (fun k => U_ k ∨ k = r_360.toNatClampNeg) ∧ ST V1 r_360.toNatClampNeg (3 : Int32) ((-1) : Int32) ((-1) : Int32) ((-1) : Int32) r_398 r_440 r_504 (-1) me_ ∧ (V1.n 57).toInt = (V_510.n 57).toInt ∧ (V1.n 46).toInt = (V_510.n 46).toInt ∧ EV V1 r_398 13 o_.toNatClampNeg ∧ TS V1 D_511 r_440 (br_.toNatClampNeg + 1) me_.toNatClampNeg ∧ TS V1 D_511 r_504 (br_.toNatClampNeg + 1) me_.toNatClampNeg := ⟨_, hV_535, SI.upd hsi_523 (by decide) (by rw [tnZ h_363.1]; omega) (Or.inr rfl), ST.s40 hst_526, rfl, rfl, (EV.ui_ (j := 40) (by decide)).mpr hl_524, TS.ui_ (by decide) hl_525, TS.ui_ (by decide) hP_517⟩
                                    have hlt_541 : ((r_360.toNatClampNeg : Nat) : Int) < (V_537.n 46).toInt := by rw [hne_542b]; exact hlt_528
                                    refine lv_iload_n hx hb dX14_readStatement_429 rfl (lv_at hl 0 rfl) ?_
                                    have hok_546 := st_ok (d := o_.toNatClampNeg) hst_540 hd_527 (lv_bd bbr_) rfl (by rw [hsi_539.1.2.2.1 27 (by decide) (by decide)]; exact hm27) (by rw [hsi_539.1.1 18 (by decide) (by decide)]; exact hm18) (Or.inl (by decide)) (fun h9 => absurd h9 (by decide)) (fun h9 => absurd h9 (by decide)) (fun _ => (hl_543.up (by decide))) (fun _ => hl_544) (fun _ => hl_545) (fun h9 => absurd h9 (by decide))
                                    have hsi_547 := SI.close hsi_539 hok_546
                                    have h9c : cF f a0_ = _ := hG_533
                                    subst hQ
                                    exact iretX (v := r_360) hx hb hr (fun t ht hW => g_retZ g hK ⟨_, rfl, ⟨⟨_, _, hV_538, hF_536, hsi_547, ⟨(by omega), (by have h9 := hlt_541; rw [tnZ h_363.1] at h9; exact h9), hd_527, (by rw [hst_540.2.2.2.2.2.2.2.2])⟩, (by omega), (by omega), (by omega), (by omega)⟩, x_507, h_508, (g.fcts [0, 1, 2] rfl)⟩⟩ ht hW) g.2.2.1.2.2 dX14_readStatement_430 hlocks
                        by_cases e_548 : x_47 = 14
                        · refine lv_topi (fun z_549 ez_549 => ?_)
                          obtain rfl : z_549 = 14 := ez_549.trans e_548
                          have kb_14 : bd 14 14 (14 : Int32) := ⟨by decide, by decide⟩
                          exact bd_no (eqX (eq_f e_548) b_332 kb_14 (lo := 14) (hi := 13) (by decide)) (by decide)
                        by_cases e_550 : x_47 = 15
                        · refine lv_topi (fun z_551 ez_551 => ?_)
                          obtain rfl : z_551 = 15 := ez_551.trans e_550
                          have kb_15 : bd 15 15 (15 : Int32) := ⟨by decide, by decide⟩
                          exact bd_no (eqX (eq_f e_550) b_332 kb_15 (lo := 15) (hi := 13) (by decide)) (by decide)
                        by_cases e_552 : x_47 = 16
                        · refine lv_topi (fun z_553 ez_553 => ?_)
                          obtain rfl : z_553 = 16 := ez_553.trans e_552
                          have kb_16 : bd 16 16 (16 : Int32) := ⟨by decide, by decide⟩
                          exact bd_no (eqX (eq_f e_552) b_332 kb_16 (lo := 16) (hi := 13) (by decide)) (by decide)
                        exact absurd (Int32.toInt_inj.mp (by have h9 := b_332; unfold bd at h9; have h8 : (13 : Int32).toInt = 13 := (by decide); omega) : x_47 = 13) e_392
                  · have fc_356 := eq_f c_356
                    exact absurd fc_356 fc_48
                · have fc_355 := eq_f c_355
                  have b_554 : bd 13 1 x_47 := eqX fc_355 b_332 kb_1 (by decide)
                  exact bd_no b_554 (by decide)
            · have fc_342 := eq_f c_342
              exact absurd fc_342 fc_2
        · have fc_331 := neq_f c_331
          refine lv_aload_n hx hb dX14_readStatement_34 rfl (lv_at hl 0 rfl) ?_
          refine g_getk (C := RX14) (T := TX14) (N := 67) hx hb hts (mc_ inX14) hown hK g rfl 7 (by decide) rfl (hts _ (List.mem_cons_of_mem _ t_2153)) (fun _ h9 => h9) 0 rfl dX14_readStatement_35 ?_
          refine lv_bipush (v := 15) hx hb dX14_readStatement_38 (by decide) ?_
          have kb_15 : bd 15 15 (15 : Int32) := ⟨by decide, by decide⟩
          refine lv_icmp_eq (tgt := 69) hx hb dX14_readStatement_40 (by decide) (fun c_555 => ?_) (fun c_555 => ?_)
          · have fc_555 := eq_f c_555
            have b_556 : bd 15 15 x_47 := eqX fc_555 (bdT x_47) kb_15 (by decide)
            refine lv_iconst (v := 1) hx hb dX14_readStatement_69 (by decide) ?_
            refine lv_goto (tgt := 74) hx hb dX14_readStatement_70 (by decide) ?_
            refine lv_istore_n (lv' := [(1, .int 1), (0, .ref a0_)]) hx hb dX14_readStatement_74 rfl hl (by decide) rfl (fun ls hl => ?_)
            refine lv_aload_n hx hb dX14_readStatement_75 rfl (lv_at hl 1 rfl) ?_
            refine lv_iload_n hx hb dX14_readStatement_76 rfl (lv_at hl 0 rfl) ?_
            refine lv_iconst (v := 1) hx hb dX14_readStatement_77 (by decide) ?_
            refine lv_aload_n hx hb dX14_readStatement_78 rfl (lv_at hl 1 rfl) ?_
            refine g_geti (C := RX14) (T := TX14) (N := 67) hx hb hts (mc_ inX14) hown hK g ma0_ ka0_ (by decide) rfl 8 (by decide) rfl (hts _ (List.mem_cons_of_mem _ t_2154)) (fun _ h9 => h9) rfl dX14_readStatement_79 (fun x_557 bx_557 g => ?_)
            have hs_558 := sE_1 g 2 rfl (by have h9_0 := bbr_; unfold bd at h9_0; have h9_1 := bme_; unfold bd at h9_1; have h9_2 := bo_; unfold bd at h9_2; have h9_3 := bop_; unfold bd at h9_3; have h9_4 := bt_; unfold bd at h9_4; have h9_5 := b_46; unfold bd at h9_5; have h9_6 := b_556; unfold bd at h9_6; have h9_7 := bx_557; unfold bd at h9_7; have h8_0 := kb_1; unfold bd at h8_0; have h8_1 := kb_12; unfold bd at h8_1; have h8_2 := kb_13; unfold bd at h8_2; have h8_3 := kb_15; unfold bd at h8_3; have h8_4 := kb_2; unfold bd at h8_4; omega)
            have go_ := g
            refine g_callEv (As := [.int 1, .int 1, .int x_557]) (rest := []) ⟨hx, hb, hml, hown, hts⟩ (r_X14_need_3 l dC dI L kd tys f0 s.heap.size g.2.2.2.1 a0_ ma0_ ka0_ 1 kb_1 1 x_557) (cwV 3 hts (gV_ t_2403 t_2405 t_100 t_198 t_2406) rfl rfl rfl (by decide +kernel) ⟨(show 0 + 1 ≤ N + 1 + 493 by omega), (show 8 + (4 + 11) + 0 ≤ 60 * (N + 1) + 28500 by omega)⟩) (pre3V g hK ma0_ ka0_ (by decide) (q := (RX14, TX14, 67)) rfl) rfl hl.1 rfl (lv_room (Nat.le_of_ble_eq_true rfl)) dX14_readStatement_82 (cl_f hck_0) g hK (by decide) (by decide) (fx' := [(14, 8, a0_, .int x_557), (14, 7, a0_, .int x_47), (14, 6, a0_, .int x_1), (14, 2, a0_, .ref q0_), (14, 16, a0_, .int o_), (14, 25, a0_, .int op_), (14, 10, a0_, .int t_), (14, 17, a0_, .int me_), (14, 26, a0_, .int br_)]) rfl (fun xr_559 fr_559 H locs mxr_559 kxr_559 hp hMr_559 g => ?_) (fun fr_559 H locs hp hMr_559 g => ?_)
            · have hG_560 := isV.frame hMr_559 go_.2.2.2.1 mq0_ kq0_ (by decide) (by decide) hV
              have hG_561 := FR.frame hMr_559 go_.2.2.2.1 mq0_ kq0_ (by decide) (by decide) FR.refl
              have hG_562 := cEq.frame hMr_559 go_.2.2.2.1 ma0_ ka0_ (by decide) (by decide) hC_0
              exact hp.elim
            · have hG_563 := isV.frame hMr_559 go_.2.2.2.1 mq0_ kq0_ (by decide) (by decide) hV
              have hG_564 := FR.frame hMr_559 go_.2.2.2.1 mq0_ kq0_ (by decide) (by decide) FR.refl
              have hG_565 := cEq.frame hMr_559 go_.2.2.2.1 ma0_ ka0_ (by decide) (by decide) hC_0
              refine lv_aload_n hx hb dX14_readStatement_85 rfl (lv_at hl 1 rfl) ?_
              refine g_getk (C := RX14) (T := TX14) (N := 67) hx hb hts (mc_ inX14) hown hK g rfl 6 (by decide) rfl (hts _ (List.mem_cons_of_mem _ t_2152)) (fun _ h9 => h9) 2 rfl dX14_readStatement_86 ?_
              refine lv_iconst (v := 1) hx hb dX14_readStatement_89 (by decide) ?_
              refine lv_icmp_ne (tgt := 98) hx hb dX14_readStatement_90 (by decide) (fun c_566 => ?_) (fun c_566 => ?_)
              · have fc_566 := neq_f c_566
                refine lv_aload_n hx hb dX14_readStatement_98 rfl (lv_at hl 1 rfl) ?_
                have hs_567 := sE_1 g 2 rfl (by have h9_0 := bbr_; unfold bd at h9_0; have h9_1 := bme_; unfold bd at h9_1; have h9_2 := bo_; unfold bd at h9_2; have h9_3 := bop_; unfold bd at h9_3; have h9_4 := bt_; unfold bd at h9_4; have h9_5 := b_46; unfold bd at h9_5; have h9_6 := b_556; unfold bd at h9_6; have h9_7 := bx_557; unfold bd at h9_7; have h8_0 := kb_1; unfold bd at h8_0; have h8_1 := kb_12; unfold bd at h8_1; have h8_2 := kb_13; unfold bd at h8_2; have h8_3 := kb_15; unfold bd at h8_3; have h8_4 := kb_2; unfold bd at h8_4; omega)
                have go_ := g
                refine g_callEv (As := []) (rest := []) ⟨hx, hb, hml, hown, hts⟩ (r_X14_mayBegin_2 l dC dI L kd tys fr_559 H.size g.2.2.2.1 a0_ ma0_ ka0_ q0_ mq0_ kq0_ V_ hG_563 (g.fcts [3] rfl)) (cwV 0 hts (gV_ t_2558 t_2560 t_135 t_198 t_2561) rfl rfl rfl (by decide +kernel) ⟨(show 2 + 1 ≤ N + 1 + 493 by omega), (show 8 + (1 + 11) + 45 ≤ 60 * (N + 1) + 28500 by omega)⟩) (pre3V g hK ma0_ ka0_ (by decide) (q := (RX14, TX14, 67)) rfl) rfl hl.1 rfl (lv_room (Nat.le_of_ble_eq_true rfl)) dX14_readStatement_99 (cl_f hck_0) g hK (by decide) (by decide) (fx' := [(14, 8, a0_, .int x_557), (14, 7, a0_, .int x_47), (14, 6, a0_, .int x_1), (14, 2, a0_, .ref q0_), (14, 16, a0_, .int o_), (14, 25, a0_, .int op_), (14, 10, a0_, .int t_), (14, 17, a0_, .int me_), (14, 26, a0_, .int br_)]) rfl (fun xr_568 fr_568 H locs mxr_568 kxr_568 hp hMr_568 g => ?_) (fun fr_568 H locs hp hMr_568 g => ?_)
                · have hG_569 := cEq.frame hMr_568 go_.2.2.2.1 ma0_ ka0_ (by decide) (by decide) hG_565
                  have hF_570 := FR.call (mds := []) (mas := []) hG_564 go_ mq0_ kq0_ rfl hp
                  subst hQ
                  exact leavesX hempty hlocks (fun t ht hW => g_thrZ g hK mxr_568 kxr_568 ⟨hF_570, (by omega)⟩ ht hW) g.2.2.1.2.2
                · obtain ⟨hx_571, hx_572, -⟩ := hp
                  have hG_573 := cEq.frame hMr_568 go_.2.2.2.1 ma0_ ka0_ (by decide) (by decide) hG_565
                  have hF_574 := FR.call (mds := []) (mas := []) hG_564 go_ mq0_ kq0_ rfl hx_572
                  obtain ⟨V_575, hV_576, hN_577⟩ := hx_571
                  have hsi_578 := SI.nodes hsi_0 hN_577.1 (hN_577.2.1 hsi_0.2.2.1)
                  have hsi_578n : (V_575.n 46).toInt = (V_.n 46).toInt := by rw [exN.n46 hN_577.1]
                  have hN_577n := hN_577.2.2
                  refine lv_aload_n hx hb dX14_readStatement_102 rfl (lv_at hl 1 rfl) ?_
                  refine g_getk (C := RX14) (T := TX14) (N := 67) hx hb hts (mc_ inX14) hown hK g rfl 7 (by decide) rfl (hts _ (List.mem_cons_of_mem _ t_2153)) (fun _ h9 => h9) 1 rfl dX14_readStatement_103 ?_
                  refine lv_iconst (v := 1) hx hb dX14_readStatement_106 (by decide) ?_
                  refine lv_icmp_ne (tgt := 115) hx hb dX14_readStatement_107 (by decide) (fun c_579 => ?_) (fun c_579 => ?_)
                  · have fc_579 := neq_f c_579
                    refine lv_aload_n hx hb dX14_readStatement_115 rfl (lv_at hl 1 rfl) ?_
                    refine g_getk (C := RX14) (T := TX14) (N := 67) hx hb hts (mc_ inX14) hown hK g rfl 7 (by decide) rfl (hts _ (List.mem_cons_of_mem _ t_2153)) (fun _ h9 => h9) 1 rfl dX14_readStatement_116 ?_
                    refine lv_istore_n (lv' := [(2, .int x_47), (1, .int 1), (0, .ref a0_)]) hx hb dX14_readStatement_119 rfl hl (by decide) rfl (fun ls hl => ?_)
                    refine lv_aload_n hx hb dX14_readStatement_120 rfl (lv_at hl 2 rfl) ?_
                    refine lv_iload_n hx hb dX14_readStatement_121 rfl (lv_at hl 0 rfl) ?_
                    refine lv_bipush (v := 12) hx hb dX14_readStatement_122 (by decide) ?_
                    refine lv_icmp_ne (tgt := 131) hx hb dX14_readStatement_124 (by decide) (fun c_580 => ?_) (fun c_580 => ?_)
                    · have fc_580 := neq_f c_580
                      refine lv_iload_n hx hb dX14_readStatement_131 rfl (lv_at hl 0 rfl) ?_
                      refine lv_bipush (v := 13) hx hb dX14_readStatement_132 (by decide) ?_
                      refine lv_icmp_ne (tgt := 141) hx hb dX14_readStatement_134 (by decide) (fun c_581 => ?_) (fun c_581 => ?_)
                      · have fc_581 := neq_f c_581
                        refine lv_iload_n hx hb dX14_readStatement_141 rfl (lv_at hl 0 rfl) ?_
                        refine lv_bipush (v := 15) hx hb dX14_readStatement_142 (by decide) ?_
                        refine lv_icmp_ne (tgt := 151) hx hb dX14_readStatement_144 (by decide) (fun c_582 => ?_) (fun c_582 => ?_)
                        · have fc_582 := neq_f c_582
                          have b_583 : bd 16 14 x_47 := neX fc_582 b_556 kb_15 (by decide)
                          exact bd_no b_583 (by decide)
                        · have fc_582 := eq_f c_582
                          refine lv_iconst (v := 4) hx hb dX14_readStatement_147 (by decide) ?_
                          refine lv_goto (tgt := 163) hx hb dX14_readStatement_148 (by decide) ?_
                          have hs_584 := sE_1 g 2 rfl (by have h9_0 := bbr_; unfold bd at h9_0; have h9_1 := bme_; unfold bd at h9_1; have h9_2 := bo_; unfold bd at h9_2; have h9_3 := bop_; unfold bd at h9_3; have h9_4 := bt_; unfold bd at h9_4; have h9_5 := b_46; unfold bd at h9_5; have h9_6 := b_556; unfold bd at h9_6; have h9_7 := bx_557; unfold bd at h9_7; have h8_0 := kb_1; unfold bd at h8_0; have h8_1 := kb_12; unfold bd at h8_1; have h8_2 := kb_13; unfold bd at h8_2; have h8_3 := kb_15; unfold bd at h8_3; have h8_4 := kb_2; unfold bd at h8_4; omega)
                          have go_ := g
                          refine g_calli (va_runV (As := [.int 4]) (rest := []) ⟨hx, hb, hml, hown, hts⟩ (r_X14_statement l dC dI L kd tys fr_568 H.size g.2.2.2.1 a0_ ma0_ ka0_ 4 q0_ mq0_ kq0_ me_ bme_ V_575 hV_576 (by omega) (g.fcts [3, 7] rfl)) (cwV 1 hts (gV_ t_2554 t_2556 t_134 t_198 t_2557) rfl rfl rfl (by decide +kernel) ⟨(show 0 + 1 ≤ N + 1 + 493 by omega), (show 8 + (3 + 11) + 0 ≤ 60 * (N + 1) + 28500 by omega)⟩) (pre3V g hK ma0_ ka0_ (by decide) (q := (RX14, TX14, 67)) rfl) rfl rfl hl.1 rfl (lv_room (Nat.le_of_ble_eq_true rfl)) dX14_readStatement_163 (cl_f hck_0)) g hK (by decide) (by decide) (fx' := [(14, 8, a0_, .int x_557), (14, 7, a0_, .int x_47), (14, 6, a0_, .int x_1), (14, 2, a0_, .ref q0_), (14, 16, a0_, .int o_), (14, 25, a0_, .int op_), (14, 10, a0_, .int t_), (14, 17, a0_, .int me_), (14, 26, a0_, .int br_)]) rfl (fun r_585 fr_585 H locs hp hMr_585 g => ?_)
                          obtain ⟨hx_586, hx_587, h_588, x_589, h_590, hF_591⟩ := hp
                          have hG_592 := cEq.frame hMr_585 go_.2.2.2.1 ma0_ ka0_ (by decide) (by decide) hG_573
                          have hF_593 := FR.call (mds := []) (mas := []) hF_574 go_ mq0_ kq0_ rfl hx_587
                          obtain ⟨V_594, hV_595, hN_596⟩ := hx_586
                          obtain ⟨D_597, hd_598, hsi_599⟩ := SI.newE (b := br_.toNatClampNeg) hsi_578 hN_596 h_588.1
                          have hsi_599e : (V_594.n 57).toInt = (V_575.n 57).toInt := by rw [(hN_596).2.2.2.1]
                          have hsi_599f : r_585.toInt = (V_575.n 46).toInt := by rw [← (hN_596).2.1]
                          have hsi_599g := (hN_596).2.2.1
                          have hlt_601 : ((r_585.toNatClampNeg : Nat) : Int) < (V_594.n 46).toInt := by rw [tnZ h_588.1]; omega
                          have g := g.more hF_591
                          refine lv_istore_n (lv' := [(3, .int r_585), (2, .int x_47), (1, .int 1), (0, .ref a0_)]) hx hb dX14_readStatement_166 rfl hl (by decide) rfl (fun ls hl => ?_)
                          refine lv_aload_n hx hb dX14_readStatement_167 rfl (lv_at hl 3 rfl) ?_
                          have hs_602 := sE_1 g 3 rfl (by have h9_0 := bbr_; unfold bd at h9_0; have h9_1 := bme_; unfold bd at h9_1; have h9_2 := bo_; unfold bd at h9_2; have h9_3 := bop_; unfold bd at h9_3; have h9_4 := h_588; unfold bd at h9_4; have h9_5 := bt_; unfold bd at h9_5; have h9_6 := b_46; unfold bd at h9_6; have h9_7 := b_556; unfold bd at h9_7; have h9_8 := bx_557; unfold bd at h9_8; have h9_9 := h_590; unfold bd at h9_9; have h8_0 := kb_1; unfold bd at h8_0; have h8_1 := kb_12; unfold bd at h8_1; have h8_2 := kb_13; unfold bd at h8_2; have h8_3 := kb_15; unfold bd at h8_3; have h8_4 := kb_2; unfold bd at h8_4; omega)
                          have go_ := g
                          refine g_callEv (As := []) (rest := []) ⟨hx, hb, hml, hown, hts⟩ (r_X14_next_2 l dC dI L kd tys fr_585 H.size g.2.2.2.1 adK adV a0_ ma0_ ka0_ t_ bt_ (g.fcts [7] rfl)) (cwV 0 hts (gV_ t_2411 t_2413 t_102 t_198 t_2414) rfl rfl rfl (by decide +kernel) ⟨(show 6 + 1 ≤ N + 1 + 493 by omega), (show 8 + (1 + 11) + 135 ≤ 60 * (N + 1) + 28500 by omega)⟩) (pre3VA g hK hAm ma0_ ka0_ (by decide) (q := (RX14, TX14, 67)) rfl) rfl hl.1 rfl (lv_room (Nat.le_of_ble_eq_true rfl)) dX14_readStatement_168 (cl_f hck_0) g hK (by decide) (by decide) (fx' := [(12, 46, q0_, .int x_589), (14, 2, a0_, .ref q0_), (14, 16, a0_, .int o_), (14, 25, a0_, .int op_), (14, 17, a0_, .int me_), (14, 26, a0_, .int br_)]) rfl (fun xr_603 fr_603 H locs mxr_603 kxr_603 hp hMr_603 g => ?_) (fun fr_603 H locs hp hMr_603 g => ?_)
                          · have hG_604 := FR.frame hMr_603 go_.2.2.2.1 mq0_ kq0_ (by decide) (by decide) hF_593
                            have hG_605 := isV.frame hMr_603 go_.2.2.2.1 mq0_ kq0_ (by decide) (by decide) hV_595
                            subst hQ
                            exact leavesX hempty hlocks (fun t ht hW => g_thrZ g hK mxr_603 kxr_603 ⟨hG_604, (by omega)⟩ ht hW) g.2.2.1.2.2
                          · obtain ⟨hx_606, h_607, x_608, h_609, hF_610⟩ := hp
                            have hG_611 := FR.frame hMr_603 go_.2.2.2.1 mq0_ kq0_ (by decide) (by decide) hF_593
                            have hG_612 := isV.frame hMr_603 go_.2.2.2.1 mq0_ kq0_ (by decide) (by decide) hV_595
                            obtain ⟨E_613, hE_613⟩ : ∃ E : Int, cEq fr_603 a0_ E := ⟨_, rfl⟩
                            have mxE_613 : E_613 ≤ 1202 := by have h9 := cF_le g ma0_ ka0_; have h8 : cF _ _ = _ := hE_613; omega
                            have lE_613 : (cF f0 a0_) + 1 ≤ E_613 := by have h9 := hx_606; have h8 : cF _ _ = _ := hE_613; have h7 : cF _ _ = _ := hG_592; have h6 := hs_602; have h5 := tk_c (f := fr_585) (t := a0_); omega
                            have b_614 : bd 0 1200 t_ := eqX rfl bt_ h_607 (by decide)
                            have g := g.more hF_610
                            refine lv_iload_n hx hb dX14_readStatement_171 rfl (lv_at hl 1 rfl) ?_
                            by_cases e_615 : x_47 = 12
                            · refine lv_topi (fun z_616 ez_616 => ?_)
                              obtain rfl : z_616 = 12 := ez_616.trans e_615
                              exact bd_no (eqX (eq_f e_615) b_556 kb_12 (lo := 15) (hi := 12) (by decide)) (by decide)
                            by_cases e_617 : x_47 = 13
                            · refine lv_topi (fun z_618 ez_618 => ?_)
                              obtain rfl : z_618 = 13 := ez_618.trans e_617
                              exact bd_no (eqX (eq_f e_617) b_556 kb_13 (lo := 15) (hi := 13) (by decide)) (by decide)
                            by_cases e_619 : x_47 = 14
                            · refine lv_topi (fun z_620 ez_620 => ?_)
                              obtain rfl : z_620 = 14 := ez_620.trans e_619
                              have kb_14 : bd 14 14 (14 : Int32) := ⟨by decide, by decide⟩
                              exact bd_no (eqX (eq_f e_619) b_556 kb_14 (lo := 15) (hi := 14) (by decide)) (by decide)
                            by_cases e_621 : x_47 = 15
                            · refine lv_topi (fun z_622 ez_622 => ?_)
                              obtain rfl : z_622 = 15 := ez_622.trans e_621
                              have b_623 : bd 15 15 x_47 := eqX (eq_f e_621) b_556 kb_15 (by decide)
                              refine lv_tableIn (off := 259) (tgt := 431) hx hb dX14_readStatement_172 (by decide) (by decide) rfl (by decide) ?_
                              refine lv_aload_n hx hb dX14_readStatement_431 rfl (lv_at hl 3 rfl) ?_
                              refine g_getk (C := RX14) (T := TX14) (N := 67) hx hb hts (mc_ inX14) hown hK g rfl 2 (by decide) rfl (hts _ (List.mem_cons_of_mem _ t_2148)) (fun _ h9 => h9) 2 rfl dX14_readStatement_432 ?_
                              refine g_getr (K := 193) (C := RX12) (T := TX12) (N := 60) hx hb hts (mc_ inX12) hown hK g mq0_ kq0_ (by decide) rfl 38 (by decide) rfl (hts _ (List.mem_cons_of_mem _ t_1981)) (fun _ h9 => h9) rfl dX14_readStatement_435 (fun a_624 ma_624 ka_624 g => ?_)
                              refine lv_iload_n hx hb dX14_readStatement_438 rfl (lv_at hl 0 rfl) ?_
                              refine lv_aload_n hx hb dX14_readStatement_439 rfl (lv_at hl 3 rfl) ?_
                              have qc__625 : cF fr_603 a0_ = _ := hE_613
                              have qc__626 : cF fr_603 a0_ = _ := hE_613
                              have go_ := g
                              refine g_callZi (As := []) (rest := [.int r_585, .ref a_624]) ⟨hx, hb, hml, hown, hts⟩ (r_X14_readEx l dC dI L kd tys fr_603 H.size g.2.2.2.1 adK adV a0_ ma0_ ka0_ q0_ mq0_ kq0_ V_594 o_ bo_ op_ bop_ x_608 h_609 hG_612 hsi_599.2.2.1 (by rw [hsi_599.1.2.2.1 0 (by decide) (by decide)]; exact ho) (by omega) (K_ - cl_0) (by omega) (g.fcts [3, 4, 5, 1] rfl)) (cwV 0 hts (gV_ t_2460 t_2462 t_112 t_198 t_2463) rfl rfl rfl (by decide +kernel) ⟨(show 486 + 1 ≤ N + 1 + 493 by omega), (show 8 + (3 + 11) + 28386 ≤ 60 * (N + 1) + 28500 by omega)⟩) (pre3VA g hK hAm ma0_ ka0_ (by decide) (q := (RX14, TX14, 67)) rfl) rfl hl.1 rfl (lv_room (Nat.le_of_ble_eq_true rfl)) dX14_readStatement_440 (cl_k (K := K_) (k := K_ - cl_0) (show cl_0 + (K_ - cl_0) ≤ K_ by omega)) g hK (by decide) (by decide) (fx' := [(12, 38, q0_, .ref a_624), (12, 46, q0_, .int x_589), (14, 2, a0_, .ref q0_), (14, 16, a0_, .int o_), (14, 17, a0_, .int me_), (14, 26, a0_, .int br_)]) rfl (fun xr_627 fr_627 H locs kr_627 cr_627 ecr_627 mxr_627 kxr_627 hp hMr_627 g => ?_) (fun r_627 fr_627 H locs kr_627 cr_627 ecr_627 hp hMr_627 g => ?_)
                              · have hF_628 := FR.call (mds := []) (mas := []) hG_611 go_ mq0_ kq0_ rfl hp.1
                                have hpk := hp.2
                                subst hQ
                                exact leavesX hempty hlocks (fun t ht hW => g_thrZ g hK mxr_627 kxr_627 ⟨hF_628, (by omega)⟩ ht hW) g.2.2.1.2.2
                              · obtain ⟨hx_629, x_630, h_631, hF_632⟩ := hp
                                obtain ⟨V_633, E_634, hV_635, hF_636, hE_637, hX_638, hw_639, hv_640, hP_641, hn_642, hk_643, hc_644⟩ := rd_use hx_629 hE_613
                                have hF_645 := FR.call (mds := []) (mas := []) hG_611 go_ mq0_ kq0_ rfl hF_636
                                have mxE_634 : E_634 ≤ 1202 := by have h9 := cF_le g ma0_ ka0_; have h8 : cF _ _ = _ := hE_637; omega
                                have hsi_646 := SI.nodes hsi_599 hX_638 hw_639
                                have hsi_646n : (V_633.n 46).toInt = (V_594.n 46).toInt := by rw [exN.n46 hX_638]
                                have hst_647 := ST.ex_ (hN_596).2.2.2.2.1 (exN.toS hX_638) hlt_601
                                have hd_648 := ((fun _ _ => rfl) _ hlt_601).trans hd_598
                                have hlt_649 := Int.lt_of_lt_of_le hlt_601 ((exN.toS hX_638)).2.2.2.2.1
                                have hck_650 : cr_627 ≤ K_ := by omega
                                have b_651 : bd 0 2499 r_627 := ⟨hv_640.1, (by have h9 := hv_640.2.1; omega)⟩
                                have he_652 := EV.up hv_640 (h' := 13) (by decide)
                                have g := g.more hF_632
                                have gp_653 := g
                                have go_ := g
                                refine g_iastX hx hb hK g ma_624 ka_624 (by decide) rfl (in_bd h_588 (by decide)) (bd_sub b_651 (by decide)) (by decide) dX14_readStatement_443 (fun f H locs hM_654 u_656 g => ?_)
                                have hG_655 := cEq.frame hM_654 go_.2.2.2.1 ma0_ ka0_ (by decide) (by decide) hE_637
                                have hV_657 := isV.ui hV_635 gp_653 2 rfl mq0_ kq0_ rfl u_656
                                have hF_658 := FR.arr hF_645 gp_653 2 rfl mq0_ kq0_ rfl rfl u_656.1
                                obtain ⟨V_659, hV_660, hsi_661, hst_662, hne_664, hne_664b, hl_665⟩ : ∃ V1 : PV, isV f q0_ V1 ∧ SI V_ δ_ V1 D_597 (fun k => U_ k ∨ k = r_585.toNatClampNeg) ∧ ST V1 r_585.toNatClampNeg (4 : Int32) ((-1) : Int32) ((-1) : Int32) ((-1) : Int32) r_627 ((-1) : Int32) ((-1) : Int32) (-1) me_ ∧ (V1.n 57).toInt = (V_633.n 57).toInt ∧ (V1.n 46).toInt = (V_633.n 46).toInt ∧ EV V1 r_627 13 o_.toNatClampNeg := ⟨_, hV_657, SI.upd hsi_646 (by decide) (by rw [tnZ h_588.1]; omega) (Or.inr rfl), ST.s38 hst_647, rfl, rfl, (EV.ui_ (j := 38) (by decide)).mpr he_652⟩
                                have hlt_663 : ((r_585.toNatClampNeg : Nat) : Int) < (V_659.n 46).toInt := by rw [hne_664b]; exact hlt_649
                                refine lv_aload_n hx hb dX14_readStatement_444 rfl (lv_at hl 3 rfl) ?_
                                refine g_getk (C := RX14) (T := TX14) (N := 67) hx hb hts (mc_ inX14) hown hK g rfl 2 (by decide) rfl (hts _ (List.mem_cons_of_mem _ t_2148)) (fun _ h9 => h9) 4 rfl dX14_readStatement_445 ?_
                                refine g_getr (K := 194) (C := RX12) (T := TX12) (N := 60) hx hb hts (mc_ inX12) hown hK g mq0_ kq0_ (by decide) rfl 39 (by decide) rfl (hts _ (List.mem_cons_of_mem _ t_1983)) (fun _ h9 => h9) rfl dX14_readStatement_448 (fun a_666 ma_666 ka_666 g => ?_)
                                refine lv_iload_n hx hb dX14_readStatement_451 rfl (lv_at hl 0 rfl) ?_
                                refine lv_aload_n hx hb dX14_readStatement_452 rfl (lv_at hl 3 rfl) ?_
                                have qc__667 : cF f a0_ = _ := hG_655
                                have qc__668 : cF f a0_ = _ := hG_655
                                have go_ := g
                                refine g_callZi (As := []) (rest := [.int r_585, .ref a_666]) ⟨hx, hb, hml, hown, hts⟩ (ih.1 l dC dI L kd tys f H.size g.2.2.2.1 adK adV a0_ ma0_ ka0_ q0_ mq0_ kq0_ V_659 D_597 (fun k => U_ k ∨ k = r_585.toNatClampNeg) o_ bo_ op_ bop_ x_630 h_631 me_ bme_ br_ (bd_sub bbr_ (by decide)) hV_660 (SI.rf hsi_661.2.2.1 hsi_661.2.2.2) (fun s9 h9 => h9.elim (fun h8 => Int.lt_of_lt_of_le (hU s9 h8) hsi_661.1.2.2.2.2.1) (fun h8 => by rw [h8]; exact hlt_663)) (by rw [hsi_661.1.2.2.1 0 (by decide) (by decide)]; exact ho) (by rw [hsi_661.1.2.2.1 27 (by decide) (by decide)]; exact hm27) (by rw [hsi_661.1.1 18 (by decide) (by decide)]; exact hm18) (by omega) (by omega) (by omega) (K_ - cr_627) (by omega) (by have h9_0 := bbr_; unfold bd at h9_0; have h9_1 := bme_; unfold bd at h9_1; have h9_2 := bo_; unfold bd at h9_2; have h9_3 := bop_; unfold bd at h9_3; have h9_4 := h_588; unfold bd at h9_4; have h9_5 := b_651; unfold bd at h9_5; have h9_6 := b_614; unfold bd at h9_6; have h9_7 := b_46; unfold bd at h9_7; have h9_8 := b_623; unfold bd at h9_8; have h9_9 := bx_557; unfold bd at h9_9; have h9_10 := h_590; unfold bd at h9_10; have h9_11 := h_609; unfold bd at h9_11; have h9_12 := h_631; unfold bd at h9_12; have h8_0 := kb_1; unfold bd at h8_0; have h8_1 := kb_12; unfold bd at h8_1; have h8_2 := kb_13; unfold bd at h8_2; have h8_3 := kb_15; unfold bd at h8_3; have h8_4 := kb_2; unfold bd at h8_4; omega) (g.fcts [5, 6, 1, 2, 7, 8] rfl)) (cwV 0 hts (gV_ t_2542 t_2544 t_131 t_198 t_2545) rfl rfl rfl (by decide +kernel) ⟨(show N + 493 + 1 ≤ N + 1 + 493 by omega), (show 8 + (5 + 11) + (60 * N + 28500) ≤ 60 * (N + 1) + 28500 by omega)⟩) (pre3VA g hK hAm ma0_ ka0_ (by decide) (q := (RX14, TX14, 67)) rfl) rfl hl.1 rfl (lv_room (Nat.le_of_ble_eq_true rfl)) dX14_readStatement_453 (cl_k (K := K_) (k := K_ - cr_627) (show cr_627 + (K_ - cr_627) ≤ K_ by omega)) g hK (by decide) (by decide) (fx' := [(12, 39, q0_, .ref a_666), (12, 38, q0_, .ref a_624), (14, 2, a0_, .ref q0_), (14, 16, a0_, .int o_), (14, 17, a0_, .int me_)]) rfl (fun xr_669 fr_669 H locs kr_669 cr_669 ecr_669 mxr_669 kxr_669 hp hMr_669 g => ?_) (fun r_669 fr_669 H locs kr_669 cr_669 ecr_669 hp hMr_669 g => ?_)
                                · have hF_670 := FR.call (mds := []) (mas := []) hF_658 go_ mq0_ kq0_ rfl hp.1
                                  have hpk := hp.2
                                  subst hQ
                                  exact leavesX hempty hlocks (fun t ht hW => g_thrZ g hK mxr_669 kxr_669 ⟨hF_670, (by omega)⟩ ht hW) g.2.2.1.2.2
                                · obtain ⟨hx_671, x_672, h_673, hF_674⟩ := hp
                                  obtain ⟨V_675, D_676, E_677, hV_678, hF_679, hE_680, hsi_681, hP_682, hn_683, hs_684, hk_685, hc_686⟩ := rds_use hx_671 hG_655
                                  have hF_687 := FR.call (mds := []) (mas := []) hF_658 go_ mq0_ kq0_ rfl hF_679
                                  have mxE_677 : E_677 ≤ 1202 := by have h9 := cF_le g ma0_ ka0_; have h8 : cF _ _ = _ := hE_680; omega
                                  have hsi_688 := SI.call hsi_661 hsi_681
                                  have hsi_688l := hsi_681.1.2.2.2.2.1
                                  have hl_689 := exS.ev hsi_681.1 hl_665
                                  have hst_690 := ST.ex_ hst_662 hsi_681.1 hlt_663
                                  have hd_691 := (hsi_681.2.1 _ hlt_663).trans hd_648
                                  have hlt_692 := Int.lt_of_lt_of_le hlt_663 (hsi_681.1).2.2.2.2.1
                                  have hck_693 : cr_669 ≤ K_ := by omega
                                  have b_694 : bd (-1) 699 r_669 := (ts_bd hP_682 (by omega))
                                  have g := g.more hF_674
                                  have gp_695 := g
                                  have go_ := g
                                  refine g_iastX hx hb hK g ma_666 ka_666 (by decide) rfl (in_bd h_588 (by decide)) (bd_sub b_694 (by decide)) (by decide) dX14_readStatement_456 (fun f H locs hM_696 u_698 g => ?_)
                                  have hG_697 := cEq.frame hM_696 go_.2.2.2.1 ma0_ ka0_ (by decide) (by decide) hE_680
                                  have hV_699 := isV.ui hV_678 gp_695 3 rfl mq0_ kq0_ rfl u_698
                                  have hF_700 := FR.arr hF_687 gp_695 3 rfl mq0_ kq0_ rfl rfl u_698.1
                                  obtain ⟨V_701, hV_702, hsi_703, hst_704, hne_706, hne_706b, hl_707, hl_708⟩ : ∃ V1 : PV, isV f q0_ V1 ∧ SI V_ δ_ V1 D_676 (fun k => U_ k ∨ k = r_585.toNatClampNeg) ∧ ST V1 r_585.toNatClampNeg (4 : Int32) ((-1) : Int32) ((-1) : Int32) ((-1) : Int32) r_627 r_669 ((-1) : Int32) (-1) me_ ∧ (V1.n 57).toInt = (V_675.n 57).toInt ∧ (V1.n 46).toInt = (V_675.n 46).toInt ∧ EV V1 r_627 13 o_.toNatClampNeg ∧ TS V1 D_676 r_669 (br_.toNatClampNeg + 1) me_.toNatClampNeg := ⟨_, hV_699, SI.upd hsi_688 (by decide) (by rw [tnZ h_588.1]; omega) (Or.inr rfl), ST.s39 hst_690, rfl, rfl, (EV.ui_ (j := 39) (by decide)).mpr hl_689, TS.ui_ (by decide) hP_682⟩
                                  have hlt_705 : ((r_585.toNatClampNeg : Nat) : Int) < (V_701.n 46).toInt := by rw [hne_706b]; exact hlt_692
                                  refine lv_iload_n hx hb dX14_readStatement_457 rfl (lv_at hl 0 rfl) ?_
                                  have hok_709 := st_ok (d := o_.toNatClampNeg) hst_704 hd_691 (lv_bd bbr_) rfl (by rw [hsi_703.1.2.2.1 27 (by decide) (by decide)]; exact hm27) (by rw [hsi_703.1.1 18 (by decide) (by decide)]; exact hm18) (Or.inl (by decide)) (fun h9 => absurd h9 (by decide)) (fun h9 => absurd h9 (by decide)) (fun _ => (hl_707.up (by decide))) (fun _ => hl_708) (fun h9 => absurd h9 (by decide)) (fun h9 => absurd h9 (by decide))
                                  have hsi_710 := SI.close hsi_703 hok_709
                                  have h9c : cF f a0_ = _ := hG_697
                                  subst hQ
                                  exact iretX (v := r_585) hx hb hr (fun t ht hW => g_retZ g hK ⟨_, rfl, ⟨⟨_, _, hV_702, hF_700, hsi_710, ⟨(by omega), (by have h9 := hlt_705; rw [tnZ h_588.1] at h9; exact h9), hd_691, (by rw [hst_704.2.2.2.2.2.2.2.2])⟩, (by omega), (by omega), (by omega), (by omega)⟩, x_672, h_673, (g.fcts [0, 1, 2] rfl)⟩⟩ ht hW) g.2.2.1.2.2 dX14_readStatement_458 hlocks
                            by_cases e_711 : x_47 = 16
                            · refine lv_topi (fun z_712 ez_712 => ?_)
                              obtain rfl : z_712 = 16 := ez_712.trans e_711
                              have kb_16 : bd 16 16 (16 : Int32) := ⟨by decide, by decide⟩
                              exact bd_no (eqX (eq_f e_711) b_556 kb_16 (lo := 16) (hi := 15) (by decide)) (by decide)
                            exact absurd (Int32.toInt_inj.mp (by have h9 := b_556; unfold bd at h9; have h8 : (15 : Int32).toInt = 15 := (by decide); omega) : x_47 = 15) e_621
                      · have fc_581 := eq_f c_581
                        exact absurd fc_581 fc_331
                    · have fc_580 := eq_f c_580
                      exact absurd fc_580 fc_48
                  · have fc_579 := eq_f c_579
                    have b_713 : bd 15 1 x_47 := eqX fc_579 b_556 kb_1 (by decide)
                    exact bd_no b_713 (by decide)
              · have fc_566 := eq_f c_566
                exact absurd fc_566 fc_2
          · have fc_555 := neq_f c_555
            refine lv_aload_n hx hb dX14_readStatement_43 rfl (lv_at hl 0 rfl) ?_
            refine g_getk (C := RX14) (T := TX14) (N := 67) hx hb hts (mc_ inX14) hown hK g rfl 7 (by decide) rfl (hts _ (List.mem_cons_of_mem _ t_2153)) (fun _ h9 => h9) 0 rfl dX14_readStatement_44 ?_
            refine lv_bipush (v := 16) hx hb dX14_readStatement_47 (by decide) ?_
            have kb_16 : bd 16 16 (16 : Int32) := ⟨by decide, by decide⟩
            refine lv_icmp_eq (tgt := 69) hx hb dX14_readStatement_49 (by decide) (fun c_714 => ?_) (fun c_714 => ?_)
            · have fc_714 := eq_f c_714
              have b_715 : bd 16 16 x_47 := eqX fc_714 (bdT x_47) kb_16 (by decide)
              refine lv_iconst (v := 1) hx hb dX14_readStatement_69 (by decide) ?_
              refine lv_goto (tgt := 74) hx hb dX14_readStatement_70 (by decide) ?_
              refine lv_istore_n (lv' := [(1, .int 1), (0, .ref a0_)]) hx hb dX14_readStatement_74 rfl hl (by decide) rfl (fun ls hl => ?_)
              refine lv_aload_n hx hb dX14_readStatement_75 rfl (lv_at hl 1 rfl) ?_
              refine lv_iload_n hx hb dX14_readStatement_76 rfl (lv_at hl 0 rfl) ?_
              refine lv_iconst (v := 1) hx hb dX14_readStatement_77 (by decide) ?_
              refine lv_aload_n hx hb dX14_readStatement_78 rfl (lv_at hl 1 rfl) ?_
              refine g_geti (C := RX14) (T := TX14) (N := 67) hx hb hts (mc_ inX14) hown hK g ma0_ ka0_ (by decide) rfl 8 (by decide) rfl (hts _ (List.mem_cons_of_mem _ t_2154)) (fun _ h9 => h9) rfl dX14_readStatement_79 (fun x_716 bx_716 g => ?_)
              have hs_717 := sE_1 g 2 rfl (by have h9_0 := bbr_; unfold bd at h9_0; have h9_1 := bme_; unfold bd at h9_1; have h9_2 := bo_; unfold bd at h9_2; have h9_3 := bop_; unfold bd at h9_3; have h9_4 := bt_; unfold bd at h9_4; have h9_5 := b_46; unfold bd at h9_5; have h9_6 := b_715; unfold bd at h9_6; have h9_7 := bx_716; unfold bd at h9_7; have h8_0 := kb_1; unfold bd at h8_0; have h8_1 := kb_12; unfold bd at h8_1; have h8_2 := kb_13; unfold bd at h8_2; have h8_3 := kb_15; unfold bd at h8_3; have h8_4 := kb_16; unfold bd at h8_4; have h8_5 := kb_2; unfold bd at h8_5; omega)
              have go_ := g
              refine g_callEv (As := [.int 1, .int 1, .int x_716]) (rest := []) ⟨hx, hb, hml, hown, hts⟩ (r_X14_need_3 l dC dI L kd tys f0 s.heap.size g.2.2.2.1 a0_ ma0_ ka0_ 1 kb_1 1 x_716) (cwV 3 hts (gV_ t_2403 t_2405 t_100 t_198 t_2406) rfl rfl rfl (by decide +kernel) ⟨(show 0 + 1 ≤ N + 1 + 493 by omega), (show 8 + (4 + 11) + 0 ≤ 60 * (N + 1) + 28500 by omega)⟩) (pre3V g hK ma0_ ka0_ (by decide) (q := (RX14, TX14, 67)) rfl) rfl hl.1 rfl (lv_room (Nat.le_of_ble_eq_true rfl)) dX14_readStatement_82 (cl_f hck_0) g hK (by decide) (by decide) (fx' := [(14, 8, a0_, .int x_716), (14, 7, a0_, .int x_47), (14, 6, a0_, .int x_1), (14, 2, a0_, .ref q0_), (14, 16, a0_, .int o_), (14, 25, a0_, .int op_), (14, 10, a0_, .int t_), (14, 17, a0_, .int me_), (14, 26, a0_, .int br_)]) rfl (fun xr_718 fr_718 H locs mxr_718 kxr_718 hp hMr_718 g => ?_) (fun fr_718 H locs hp hMr_718 g => ?_)
              · have hG_719 := isV.frame hMr_718 go_.2.2.2.1 mq0_ kq0_ (by decide) (by decide) hV
                have hG_720 := FR.frame hMr_718 go_.2.2.2.1 mq0_ kq0_ (by decide) (by decide) FR.refl
                have hG_721 := cEq.frame hMr_718 go_.2.2.2.1 ma0_ ka0_ (by decide) (by decide) hC_0
                exact hp.elim
              · have hG_722 := isV.frame hMr_718 go_.2.2.2.1 mq0_ kq0_ (by decide) (by decide) hV
                have hG_723 := FR.frame hMr_718 go_.2.2.2.1 mq0_ kq0_ (by decide) (by decide) FR.refl
                have hG_724 := cEq.frame hMr_718 go_.2.2.2.1 ma0_ ka0_ (by decide) (by decide) hC_0
                refine lv_aload_n hx hb dX14_readStatement_85 rfl (lv_at hl 1 rfl) ?_
                refine g_getk (C := RX14) (T := TX14) (N := 67) hx hb hts (mc_ inX14) hown hK g rfl 6 (by decide) rfl (hts _ (List.mem_cons_of_mem _ t_2152)) (fun _ h9 => h9) 2 rfl dX14_readStatement_86 ?_
                refine lv_iconst (v := 1) hx hb dX14_readStatement_89 (by decide) ?_
                refine lv_icmp_ne (tgt := 98) hx hb dX14_readStatement_90 (by decide) (fun c_725 => ?_) (fun c_725 => ?_)
                · have fc_725 := neq_f c_725
                  refine lv_aload_n hx hb dX14_readStatement_98 rfl (lv_at hl 1 rfl) ?_
                  have hs_726 := sE_1 g 2 rfl (by have h9_0 := bbr_; unfold bd at h9_0; have h9_1 := bme_; unfold bd at h9_1; have h9_2 := bo_; unfold bd at h9_2; have h9_3 := bop_; unfold bd at h9_3; have h9_4 := bt_; unfold bd at h9_4; have h9_5 := b_46; unfold bd at h9_5; have h9_6 := b_715; unfold bd at h9_6; have h9_7 := bx_716; unfold bd at h9_7; have h8_0 := kb_1; unfold bd at h8_0; have h8_1 := kb_12; unfold bd at h8_1; have h8_2 := kb_13; unfold bd at h8_2; have h8_3 := kb_15; unfold bd at h8_3; have h8_4 := kb_16; unfold bd at h8_4; have h8_5 := kb_2; unfold bd at h8_5; omega)
                  have go_ := g
                  refine g_callEv (As := []) (rest := []) ⟨hx, hb, hml, hown, hts⟩ (r_X14_mayBegin_2 l dC dI L kd tys fr_718 H.size g.2.2.2.1 a0_ ma0_ ka0_ q0_ mq0_ kq0_ V_ hG_722 (g.fcts [3] rfl)) (cwV 0 hts (gV_ t_2558 t_2560 t_135 t_198 t_2561) rfl rfl rfl (by decide +kernel) ⟨(show 2 + 1 ≤ N + 1 + 493 by omega), (show 8 + (1 + 11) + 45 ≤ 60 * (N + 1) + 28500 by omega)⟩) (pre3V g hK ma0_ ka0_ (by decide) (q := (RX14, TX14, 67)) rfl) rfl hl.1 rfl (lv_room (Nat.le_of_ble_eq_true rfl)) dX14_readStatement_99 (cl_f hck_0) g hK (by decide) (by decide) (fx' := [(14, 8, a0_, .int x_716), (14, 7, a0_, .int x_47), (14, 6, a0_, .int x_1), (14, 2, a0_, .ref q0_), (14, 16, a0_, .int o_), (14, 25, a0_, .int op_), (14, 10, a0_, .int t_), (14, 17, a0_, .int me_), (14, 26, a0_, .int br_)]) rfl (fun xr_727 fr_727 H locs mxr_727 kxr_727 hp hMr_727 g => ?_) (fun fr_727 H locs hp hMr_727 g => ?_)
                  · have hG_728 := cEq.frame hMr_727 go_.2.2.2.1 ma0_ ka0_ (by decide) (by decide) hG_724
                    have hF_729 := FR.call (mds := []) (mas := []) hG_723 go_ mq0_ kq0_ rfl hp
                    subst hQ
                    exact leavesX hempty hlocks (fun t ht hW => g_thrZ g hK mxr_727 kxr_727 ⟨hF_729, (by omega)⟩ ht hW) g.2.2.1.2.2
                  · obtain ⟨hx_730, hx_731, -⟩ := hp
                    have hG_732 := cEq.frame hMr_727 go_.2.2.2.1 ma0_ ka0_ (by decide) (by decide) hG_724
                    have hF_733 := FR.call (mds := []) (mas := []) hG_723 go_ mq0_ kq0_ rfl hx_731
                    obtain ⟨V_734, hV_735, hN_736⟩ := hx_730
                    have hsi_737 := SI.nodes hsi_0 hN_736.1 (hN_736.2.1 hsi_0.2.2.1)
                    have hsi_737n : (V_734.n 46).toInt = (V_.n 46).toInt := by rw [exN.n46 hN_736.1]
                    have hN_736n := hN_736.2.2
                    refine lv_aload_n hx hb dX14_readStatement_102 rfl (lv_at hl 1 rfl) ?_
                    refine g_getk (C := RX14) (T := TX14) (N := 67) hx hb hts (mc_ inX14) hown hK g rfl 7 (by decide) rfl (hts _ (List.mem_cons_of_mem _ t_2153)) (fun _ h9 => h9) 1 rfl dX14_readStatement_103 ?_
                    refine lv_iconst (v := 1) hx hb dX14_readStatement_106 (by decide) ?_
                    refine lv_icmp_ne (tgt := 115) hx hb dX14_readStatement_107 (by decide) (fun c_738 => ?_) (fun c_738 => ?_)
                    · have fc_738 := neq_f c_738
                      refine lv_aload_n hx hb dX14_readStatement_115 rfl (lv_at hl 1 rfl) ?_
                      refine g_getk (C := RX14) (T := TX14) (N := 67) hx hb hts (mc_ inX14) hown hK g rfl 7 (by decide) rfl (hts _ (List.mem_cons_of_mem _ t_2153)) (fun _ h9 => h9) 1 rfl dX14_readStatement_116 ?_
                      refine lv_istore_n (lv' := [(2, .int x_47), (1, .int 1), (0, .ref a0_)]) hx hb dX14_readStatement_119 rfl hl (by decide) rfl (fun ls hl => ?_)
                      refine lv_aload_n hx hb dX14_readStatement_120 rfl (lv_at hl 2 rfl) ?_
                      refine lv_iload_n hx hb dX14_readStatement_121 rfl (lv_at hl 0 rfl) ?_
                      refine lv_bipush (v := 12) hx hb dX14_readStatement_122 (by decide) ?_
                      refine lv_icmp_ne (tgt := 131) hx hb dX14_readStatement_124 (by decide) (fun c_739 => ?_) (fun c_739 => ?_)
                      · have fc_739 := neq_f c_739
                        refine lv_iload_n hx hb dX14_readStatement_131 rfl (lv_at hl 0 rfl) ?_
                        refine lv_bipush (v := 13) hx hb dX14_readStatement_132 (by decide) ?_
                        refine lv_icmp_ne (tgt := 141) hx hb dX14_readStatement_134 (by decide) (fun c_740 => ?_) (fun c_740 => ?_)
                        · have fc_740 := neq_f c_740
                          refine lv_iload_n hx hb dX14_readStatement_141 rfl (lv_at hl 0 rfl) ?_
                          refine lv_bipush (v := 15) hx hb dX14_readStatement_142 (by decide) ?_
                          refine lv_icmp_ne (tgt := 151) hx hb dX14_readStatement_144 (by decide) (fun c_741 => ?_) (fun c_741 => ?_)
                          · have fc_741 := neq_f c_741
                            refine lv_iload_n hx hb dX14_readStatement_151 rfl (lv_at hl 0 rfl) ?_
                            refine lv_bipush (v := 16) hx hb dX14_readStatement_152 (by decide) ?_
                            refine lv_icmp_ne (tgt := 161) hx hb dX14_readStatement_154 (by decide) (fun c_742 => ?_) (fun c_742 => ?_)
                            · have fc_742 := neq_f c_742
                              have b_743 : bd 17 15 x_47 := neX fc_742 b_715 kb_16 (by decide)
                              exact bd_no b_743 (by decide)
                            · have fc_742 := eq_f c_742
                              refine lv_iconst (v := 5) hx hb dX14_readStatement_157 (by decide) ?_
                              refine lv_goto (tgt := 163) hx hb dX14_readStatement_158 (by decide) ?_
                              have hs_744 := sE_1 g 2 rfl (by have h9_0 := bbr_; unfold bd at h9_0; have h9_1 := bme_; unfold bd at h9_1; have h9_2 := bo_; unfold bd at h9_2; have h9_3 := bop_; unfold bd at h9_3; have h9_4 := bt_; unfold bd at h9_4; have h9_5 := b_46; unfold bd at h9_5; have h9_6 := b_715; unfold bd at h9_6; have h9_7 := bx_716; unfold bd at h9_7; have h8_0 := kb_1; unfold bd at h8_0; have h8_1 := kb_12; unfold bd at h8_1; have h8_2 := kb_13; unfold bd at h8_2; have h8_3 := kb_15; unfold bd at h8_3; have h8_4 := kb_16; unfold bd at h8_4; have h8_5 := kb_2; unfold bd at h8_5; omega)
                              have go_ := g
                              refine g_calli (va_runV (As := [.int 5]) (rest := []) ⟨hx, hb, hml, hown, hts⟩ (r_X14_statement l dC dI L kd tys fr_727 H.size g.2.2.2.1 a0_ ma0_ ka0_ 5 q0_ mq0_ kq0_ me_ bme_ V_734 hV_735 (by omega) (g.fcts [3, 7] rfl)) (cwV 1 hts (gV_ t_2554 t_2556 t_134 t_198 t_2557) rfl rfl rfl (by decide +kernel) ⟨(show 0 + 1 ≤ N + 1 + 493 by omega), (show 8 + (3 + 11) + 0 ≤ 60 * (N + 1) + 28500 by omega)⟩) (pre3V g hK ma0_ ka0_ (by decide) (q := (RX14, TX14, 67)) rfl) rfl rfl hl.1 rfl (lv_room (Nat.le_of_ble_eq_true rfl)) dX14_readStatement_163 (cl_f hck_0)) g hK (by decide) (by decide) (fx' := [(14, 8, a0_, .int x_716), (14, 7, a0_, .int x_47), (14, 6, a0_, .int x_1), (14, 2, a0_, .ref q0_), (14, 16, a0_, .int o_), (14, 25, a0_, .int op_), (14, 10, a0_, .int t_), (14, 17, a0_, .int me_), (14, 26, a0_, .int br_)]) rfl (fun r_745 fr_745 H locs hp hMr_745 g => ?_)
                              obtain ⟨hx_746, hx_747, h_748, x_749, h_750, hF_751⟩ := hp
                              have hG_752 := cEq.frame hMr_745 go_.2.2.2.1 ma0_ ka0_ (by decide) (by decide) hG_732
                              have hF_753 := FR.call (mds := []) (mas := []) hF_733 go_ mq0_ kq0_ rfl hx_747
                              obtain ⟨V_754, hV_755, hN_756⟩ := hx_746
                              obtain ⟨D_757, hd_758, hsi_759⟩ := SI.newE (b := br_.toNatClampNeg) hsi_737 hN_756 h_748.1
                              have hsi_759e : (V_754.n 57).toInt = (V_734.n 57).toInt := by rw [(hN_756).2.2.2.1]
                              have hsi_759f : r_745.toInt = (V_734.n 46).toInt := by rw [← (hN_756).2.1]
                              have hsi_759g := (hN_756).2.2.1
                              have hlt_761 : ((r_745.toNatClampNeg : Nat) : Int) < (V_754.n 46).toInt := by rw [tnZ h_748.1]; omega
                              have g := g.more hF_751
                              refine lv_istore_n (lv' := [(3, .int r_745), (2, .int x_47), (1, .int 1), (0, .ref a0_)]) hx hb dX14_readStatement_166 rfl hl (by decide) rfl (fun ls hl => ?_)
                              refine lv_aload_n hx hb dX14_readStatement_167 rfl (lv_at hl 3 rfl) ?_
                              have hs_762 := sE_1 g 3 rfl (by have h9_0 := bbr_; unfold bd at h9_0; have h9_1 := bme_; unfold bd at h9_1; have h9_2 := bo_; unfold bd at h9_2; have h9_3 := bop_; unfold bd at h9_3; have h9_4 := h_748; unfold bd at h9_4; have h9_5 := bt_; unfold bd at h9_5; have h9_6 := b_46; unfold bd at h9_6; have h9_7 := b_715; unfold bd at h9_7; have h9_8 := bx_716; unfold bd at h9_8; have h9_9 := h_750; unfold bd at h9_9; have h8_0 := kb_1; unfold bd at h8_0; have h8_1 := kb_12; unfold bd at h8_1; have h8_2 := kb_13; unfold bd at h8_2; have h8_3 := kb_15; unfold bd at h8_3; have h8_4 := kb_16; unfold bd at h8_4; have h8_5 := kb_2; unfold bd at h8_5; omega)
                              have go_ := g
                              refine g_callEv (As := []) (rest := []) ⟨hx, hb, hml, hown, hts⟩ (r_X14_next_2 l dC dI L kd tys fr_745 H.size g.2.2.2.1 adK adV a0_ ma0_ ka0_ t_ bt_ (g.fcts [7] rfl)) (cwV 0 hts (gV_ t_2411 t_2413 t_102 t_198 t_2414) rfl rfl rfl (by decide +kernel) ⟨(show 6 + 1 ≤ N + 1 + 493 by omega), (show 8 + (1 + 11) + 135 ≤ 60 * (N + 1) + 28500 by omega)⟩) (pre3VA g hK hAm ma0_ ka0_ (by decide) (q := (RX14, TX14, 67)) rfl) rfl hl.1 rfl (lv_room (Nat.le_of_ble_eq_true rfl)) dX14_readStatement_168 (cl_f hck_0) g hK (by decide) (by decide) (fx' := [(12, 46, q0_, .int x_749), (14, 2, a0_, .ref q0_), (14, 16, a0_, .int o_), (14, 25, a0_, .int op_), (14, 17, a0_, .int me_), (14, 26, a0_, .int br_)]) rfl (fun xr_763 fr_763 H locs mxr_763 kxr_763 hp hMr_763 g => ?_) (fun fr_763 H locs hp hMr_763 g => ?_)
                              · have hG_764 := FR.frame hMr_763 go_.2.2.2.1 mq0_ kq0_ (by decide) (by decide) hF_753
                                have hG_765 := isV.frame hMr_763 go_.2.2.2.1 mq0_ kq0_ (by decide) (by decide) hV_755
                                subst hQ
                                exact leavesX hempty hlocks (fun t ht hW => g_thrZ g hK mxr_763 kxr_763 ⟨hG_764, (by omega)⟩ ht hW) g.2.2.1.2.2
                              · obtain ⟨hx_766, h_767, x_768, h_769, hF_770⟩ := hp
                                have hG_771 := FR.frame hMr_763 go_.2.2.2.1 mq0_ kq0_ (by decide) (by decide) hF_753
                                have hG_772 := isV.frame hMr_763 go_.2.2.2.1 mq0_ kq0_ (by decide) (by decide) hV_755
                                obtain ⟨E_773, hE_773⟩ : ∃ E : Int, cEq fr_763 a0_ E := ⟨_, rfl⟩
                                have mxE_773 : E_773 ≤ 1202 := by have h9 := cF_le g ma0_ ka0_; have h8 : cF _ _ = _ := hE_773; omega
                                have lE_773 : (cF f0 a0_) + 1 ≤ E_773 := by have h9 := hx_766; have h8 : cF _ _ = _ := hE_773; have h7 : cF _ _ = _ := hG_752; have h6 := hs_762; have h5 := tk_c (f := fr_745) (t := a0_); omega
                                have b_774 : bd 0 1200 t_ := eqX rfl bt_ h_767 (by decide)
                                have g := g.more hF_770
                                refine lv_iload_n hx hb dX14_readStatement_171 rfl (lv_at hl 1 rfl) ?_
                                by_cases e_775 : x_47 = 12
                                · refine lv_topi (fun z_776 ez_776 => ?_)
                                  obtain rfl : z_776 = 12 := ez_776.trans e_775
                                  exact bd_no (eqX (eq_f e_775) b_715 kb_12 (lo := 16) (hi := 12) (by decide)) (by decide)
                                by_cases e_777 : x_47 = 13
                                · refine lv_topi (fun z_778 ez_778 => ?_)
                                  obtain rfl : z_778 = 13 := ez_778.trans e_777
                                  exact bd_no (eqX (eq_f e_777) b_715 kb_13 (lo := 16) (hi := 13) (by decide)) (by decide)
                                by_cases e_779 : x_47 = 14
                                · refine lv_topi (fun z_780 ez_780 => ?_)
                                  obtain rfl : z_780 = 14 := ez_780.trans e_779
                                  have kb_14 : bd 14 14 (14 : Int32) := ⟨by decide, by decide⟩
                                  exact bd_no (eqX (eq_f e_779) b_715 kb_14 (lo := 16) (hi := 14) (by decide)) (by decide)
                                by_cases e_781 : x_47 = 15
                                · refine lv_topi (fun z_782 ez_782 => ?_)
                                  obtain rfl : z_782 = 15 := ez_782.trans e_781
                                  exact bd_no (eqX (eq_f e_781) b_715 kb_15 (lo := 16) (hi := 15) (by decide)) (by decide)
                                by_cases e_783 : x_47 = 16
                                · refine lv_topi (fun z_784 ez_784 => ?_)
                                  obtain rfl : z_784 = 16 := ez_784.trans e_783
                                  have b_785 : bd 16 16 x_47 := eqX (eq_f e_783) b_715 kb_16 (by decide)
                                  refine lv_tableIn (off := 287) (tgt := 459) hx hb dX14_readStatement_172 (by decide) (by decide) rfl (by decide) ?_
                                  refine lv_aload_n hx hb dX14_readStatement_459 rfl (lv_at hl 3 rfl) ?_
                                  refine g_getk (C := RX14) (T := TX14) (N := 67) hx hb hts (mc_ inX14) hown hK g rfl 2 (by decide) rfl (hts _ (List.mem_cons_of_mem _ t_2148)) (fun _ h9 => h9) 2 rfl dX14_readStatement_460 ?_
                                  refine g_getr (K := 193) (C := RX12) (T := TX12) (N := 60) hx hb hts (mc_ inX12) hown hK g mq0_ kq0_ (by decide) rfl 38 (by decide) rfl (hts _ (List.mem_cons_of_mem _ t_1981)) (fun _ h9 => h9) rfl dX14_readStatement_463 (fun a_786 ma_786 ka_786 g => ?_)
                                  refine lv_iload_n hx hb dX14_readStatement_466 rfl (lv_at hl 0 rfl) ?_
                                  refine lv_aload_n hx hb dX14_readStatement_467 rfl (lv_at hl 3 rfl) ?_
                                  have qc__787 : cF fr_763 a0_ = _ := hE_773
                                  have qc__788 : cF fr_763 a0_ = _ := hE_773
                                  have go_ := g
                                  refine g_callZi (As := []) (rest := [.int r_745, .ref a_786]) ⟨hx, hb, hml, hown, hts⟩ (r_X14_readEx l dC dI L kd tys fr_763 H.size g.2.2.2.1 adK adV a0_ ma0_ ka0_ q0_ mq0_ kq0_ V_754 o_ bo_ op_ bop_ x_768 h_769 hG_772 hsi_759.2.2.1 (by rw [hsi_759.1.2.2.1 0 (by decide) (by decide)]; exact ho) (by omega) (K_ - cl_0) (by omega) (g.fcts [3, 4, 5, 1] rfl)) (cwV 0 hts (gV_ t_2460 t_2462 t_112 t_198 t_2463) rfl rfl rfl (by decide +kernel) ⟨(show 486 + 1 ≤ N + 1 + 493 by omega), (show 8 + (3 + 11) + 28386 ≤ 60 * (N + 1) + 28500 by omega)⟩) (pre3VA g hK hAm ma0_ ka0_ (by decide) (q := (RX14, TX14, 67)) rfl) rfl hl.1 rfl (lv_room (Nat.le_of_ble_eq_true rfl)) dX14_readStatement_468 (cl_k (K := K_) (k := K_ - cl_0) (show cl_0 + (K_ - cl_0) ≤ K_ by omega)) g hK (by decide) (by decide) (fx' := [(12, 38, q0_, .ref a_786), (12, 46, q0_, .int x_749), (14, 2, a0_, .ref q0_), (14, 16, a0_, .int o_), (14, 17, a0_, .int me_), (14, 26, a0_, .int br_)]) rfl (fun xr_789 fr_789 H locs kr_789 cr_789 ecr_789 mxr_789 kxr_789 hp hMr_789 g => ?_) (fun r_789 fr_789 H locs kr_789 cr_789 ecr_789 hp hMr_789 g => ?_)
                                  · have hF_790 := FR.call (mds := []) (mas := []) hG_771 go_ mq0_ kq0_ rfl hp.1
                                    have hpk := hp.2
                                    subst hQ
                                    exact leavesX hempty hlocks (fun t ht hW => g_thrZ g hK mxr_789 kxr_789 ⟨hF_790, (by omega)⟩ ht hW) g.2.2.1.2.2
                                  · obtain ⟨hx_791, x_792, h_793, hF_794⟩ := hp
                                    obtain ⟨V_795, E_796, hV_797, hF_798, hE_799, hX_800, hw_801, hv_802, hP_803, hn_804, hk_805, hc_806⟩ := rd_use hx_791 hE_773
                                    have hF_807 := FR.call (mds := []) (mas := []) hG_771 go_ mq0_ kq0_ rfl hF_798
                                    have mxE_796 : E_796 ≤ 1202 := by have h9 := cF_le g ma0_ ka0_; have h8 : cF _ _ = _ := hE_799; omega
                                    have hsi_808 := SI.nodes hsi_759 hX_800 hw_801
                                    have hsi_808n : (V_795.n 46).toInt = (V_754.n 46).toInt := by rw [exN.n46 hX_800]
                                    have hst_809 := ST.ex_ (hN_756).2.2.2.2.1 (exN.toS hX_800) hlt_761
                                    have hd_810 := ((fun _ _ => rfl) _ hlt_761).trans hd_758
                                    have hlt_811 := Int.lt_of_lt_of_le hlt_761 ((exN.toS hX_800)).2.2.2.2.1
                                    have hck_812 : cr_789 ≤ K_ := by omega
                                    have b_813 : bd 0 2499 r_789 := ⟨hv_802.1, (by have h9 := hv_802.2.1; omega)⟩
                                    have he_814 := EV.up hv_802 (h' := 13) (by decide)
                                    have g := g.more hF_794
                                    have gp_815 := g
                                    have go_ := g
                                    refine g_iastX hx hb hK g ma_786 ka_786 (by decide) rfl (in_bd h_748 (by decide)) (bd_sub b_813 (by decide)) (by decide) dX14_readStatement_471 (fun f H locs hM_816 u_818 g => ?_)
                                    have hG_817 := cEq.frame hM_816 go_.2.2.2.1 ma0_ ka0_ (by decide) (by decide) hE_799
                                    have hV_819 := isV.ui hV_797 gp_815 2 rfl mq0_ kq0_ rfl u_818
                                    have hF_820 := FR.arr hF_807 gp_815 2 rfl mq0_ kq0_ rfl rfl u_818.1
                                    obtain ⟨V_821, hV_822, hsi_823, hst_824, hne_826, hne_826b, hl_827⟩ : ∃ V1 : PV, isV f q0_ V1 ∧ SI V_ δ_ V1 D_757 (fun k => U_ k ∨ k = r_745.toNatClampNeg) ∧ ST V1 r_745.toNatClampNeg (5 : Int32) ((-1) : Int32) ((-1) : Int32) ((-1) : Int32) r_789 ((-1) : Int32) ((-1) : Int32) (-1) me_ ∧ (V1.n 57).toInt = (V_795.n 57).toInt ∧ (V1.n 46).toInt = (V_795.n 46).toInt ∧ EV V1 r_789 13 o_.toNatClampNeg := ⟨_, hV_819, SI.upd hsi_808 (by decide) (by rw [tnZ h_748.1]; omega) (Or.inr rfl), ST.s38 hst_809, rfl, rfl, (EV.ui_ (j := 38) (by decide)).mpr he_814⟩
                                    have hlt_825 : ((r_745.toNatClampNeg : Nat) : Int) < (V_821.n 46).toInt := by rw [hne_826b]; exact hlt_811
                                    refine lv_aload_n hx hb dX14_readStatement_472 rfl (lv_at hl 3 rfl) ?_
                                    refine lv_bipush (v := 59) hx hb dX14_readStatement_473 (by decide) ?_
                                    have go_ := g
                                    refine g_callEv (As := [.int 59]) (rest := []) ⟨hx, hb, hml, hown, hts⟩ (r_X14_sign_2 l dC dI L kd tys f H.size g.2.2.2.1 adK adV a0_ ma0_ ka0_ 59 x_792 h_793 (g.fcts [1] rfl)) (cwV 1 hts (gV_ t_2431 t_2433 t_107 t_198 t_2434) rfl rfl rfl (by decide +kernel) ⟨(show 7 + 1 ≤ N + 1 + 493 by omega), (show 8 + (2 + 11) + 155 ≤ 60 * (N + 1) + 28500 by omega)⟩) (pre3VA g hK hAm ma0_ ka0_ (by decide) (q := (RX14, TX14, 67)) rfl) rfl hl.1 rfl (lv_room (Nat.le_of_ble_eq_true rfl)) dX14_readStatement_475 (cl_f hck_812) g hK (by decide) (by decide) (fx' := [(14, 25, a0_, .int op_), (12, 38, q0_, .ref a_786), (12, 46, q0_, .int x_749), (14, 2, a0_, .ref q0_), (14, 16, a0_, .int o_), (14, 17, a0_, .int me_), (14, 26, a0_, .int br_)]) rfl (fun xr_828 fr_828 H locs mxr_828 kxr_828 hp hMr_828 g => ?_) (fun fr_828 H locs hp hMr_828 g => ?_)
                                    · have hG_829 := isV.frame hMr_828 go_.2.2.2.1 mq0_ kq0_ (by decide) (by decide) hV_822
                                      have hG_830 := FR.frame hMr_828 go_.2.2.2.1 mq0_ kq0_ (by decide) (by decide) hF_820
                                      subst hQ
                                      exact leavesX hempty hlocks (fun t ht hW => g_thrZ g hK mxr_828 kxr_828 ⟨hG_830, (by omega)⟩ ht hW) g.2.2.1.2.2
                                    · obtain ⟨hx_831, h_832, x_833, h_834, hF_835⟩ := hp
                                      have hG_836 := isV.frame hMr_828 go_.2.2.2.1 mq0_ kq0_ (by decide) (by decide) hV_822
                                      have hG_837 := FR.frame hMr_828 go_.2.2.2.1 mq0_ kq0_ (by decide) (by decide) hF_820
                                      obtain ⟨E_838, hE_838⟩ : ∃ E : Int, cEq fr_828 a0_ E := ⟨_, rfl⟩
                                      have mxE_838 : E_838 ≤ 1202 := by have h9 := cF_le g ma0_ ka0_; have h8 : cF _ _ = _ := hE_838; omega
                                      have lE_838 : E_796 + 1 ≤ E_838 := by have h9 := hx_831; have h8 : cF _ _ = _ := hE_838; have h7 : cF _ _ = _ := hG_817; omega
                                      have b_839 : bd 0 1200 x_792 := eqX rfl h_793 h_832 (by decide)
                                      have g := g.more hF_835
                                      refine lv_iload_n hx hb dX14_readStatement_478 rfl (lv_at hl 0 rfl) ?_
                                      have hok_840 := st_ok (d := o_.toNatClampNeg) hst_824 hd_810 (lv_bd bbr_) rfl (by rw [hsi_823.1.2.2.1 27 (by decide) (by decide)]; exact hm27) (by rw [hsi_823.1.1 18 (by decide) (by decide)]; exact hm18) (Or.inl (by decide)) (fun h9 => absurd h9 (by decide)) (fun h9 => absurd h9 (by decide)) (fun _ => (hl_827.up (by decide))) (fun h9 => absurd h9 (by decide)) (fun h9 => absurd h9 (by decide)) (fun h9 => absurd h9 (by decide))
                                      have hsi_841 := SI.close hsi_823 hok_840
                                      have h9c : cF fr_828 a0_ = _ := hE_838
                                      subst hQ
                                      exact iretX (v := r_745) hx hb hr (fun t ht hW => g_retZ g hK ⟨_, rfl, ⟨⟨_, _, hG_836, hG_837, hsi_841, ⟨(by omega), (by have h9 := hlt_825; rw [tnZ h_748.1] at h9; exact h9), hd_810, (by rw [hst_824.2.2.2.2.2.2.2.2])⟩, (by omega), (by omega), (by omega), (by omega)⟩, x_833, h_834, (g.fcts [1, 7, 0] rfl)⟩⟩ ht hW) g.2.2.1.2.2 dX14_readStatement_479 hlocks
                                exact absurd (Int32.toInt_inj.mp (by have h9 := b_715; unfold bd at h9; have h8 : (16 : Int32).toInt = 16 := (by decide); omega) : x_47 = 16) e_783
                          · have fc_741 := eq_f c_741
                            exact absurd fc_741 fc_555
                        · have fc_740 := eq_f c_740
                          exact absurd fc_740 fc_331
                      · have fc_739 := eq_f c_739
                        exact absurd fc_739 fc_48
                    · have fc_738 := eq_f c_738
                      have b_842 : bd 16 1 x_47 := eqX fc_738 b_715 kb_1 (by decide)
                      exact bd_no b_842 (by decide)
                · have fc_725 := eq_f c_725
                  exact absurd fc_725 fc_2
            · have fc_714 := neq_f c_714
              refine lv_aload_n hx hb dX14_readStatement_52 rfl (lv_at hl 0 rfl) ?_
              refine g_getk (C := RX14) (T := TX14) (N := 67) hx hb hts (mc_ inX14) hown hK g rfl 7 (by decide) rfl (hts _ (List.mem_cons_of_mem _ t_2153)) (fun _ h9 => h9) 0 rfl dX14_readStatement_53 ?_
              refine lv_bipush (v := 17) hx hb dX14_readStatement_56 (by decide) ?_
              have kb_17 : bd 17 17 (17 : Int32) := ⟨by decide, by decide⟩
              refine lv_icmp_eq (tgt := 69) hx hb dX14_readStatement_58 (by decide) (fun c_843 => ?_) (fun c_843 => ?_)
              · have fc_843 := eq_f c_843
                have b_844 : bd 17 17 x_47 := eqX fc_843 (bdT x_47) kb_17 (by decide)
                refine lv_iconst (v := 1) hx hb dX14_readStatement_69 (by decide) ?_
                refine lv_goto (tgt := 74) hx hb dX14_readStatement_70 (by decide) ?_
                refine lv_istore_n (lv' := [(1, .int 1), (0, .ref a0_)]) hx hb dX14_readStatement_74 rfl hl (by decide) rfl (fun ls hl => ?_)
                refine lv_aload_n hx hb dX14_readStatement_75 rfl (lv_at hl 1 rfl) ?_
                refine lv_iload_n hx hb dX14_readStatement_76 rfl (lv_at hl 0 rfl) ?_
                refine lv_iconst (v := 1) hx hb dX14_readStatement_77 (by decide) ?_
                refine lv_aload_n hx hb dX14_readStatement_78 rfl (lv_at hl 1 rfl) ?_
                refine g_geti (C := RX14) (T := TX14) (N := 67) hx hb hts (mc_ inX14) hown hK g ma0_ ka0_ (by decide) rfl 8 (by decide) rfl (hts _ (List.mem_cons_of_mem _ t_2154)) (fun _ h9 => h9) rfl dX14_readStatement_79 (fun x_845 bx_845 g => ?_)
                have hs_846 := sE_1 g 2 rfl (by have h9_0 := bbr_; unfold bd at h9_0; have h9_1 := bme_; unfold bd at h9_1; have h9_2 := bo_; unfold bd at h9_2; have h9_3 := bop_; unfold bd at h9_3; have h9_4 := bt_; unfold bd at h9_4; have h9_5 := b_46; unfold bd at h9_5; have h9_6 := b_844; unfold bd at h9_6; have h9_7 := bx_845; unfold bd at h9_7; have h8_0 := kb_1; unfold bd at h8_0; have h8_1 := kb_12; unfold bd at h8_1; have h8_2 := kb_13; unfold bd at h8_2; have h8_3 := kb_15; unfold bd at h8_3; have h8_4 := kb_16; unfold bd at h8_4; have h8_5 := kb_17; unfold bd at h8_5; have h8_6 := kb_2; unfold bd at h8_6; omega)
                have go_ := g
                refine g_callEv (As := [.int 1, .int 1, .int x_845]) (rest := []) ⟨hx, hb, hml, hown, hts⟩ (r_X14_need_3 l dC dI L kd tys f0 s.heap.size g.2.2.2.1 a0_ ma0_ ka0_ 1 kb_1 1 x_845) (cwV 3 hts (gV_ t_2403 t_2405 t_100 t_198 t_2406) rfl rfl rfl (by decide +kernel) ⟨(show 0 + 1 ≤ N + 1 + 493 by omega), (show 8 + (4 + 11) + 0 ≤ 60 * (N + 1) + 28500 by omega)⟩) (pre3V g hK ma0_ ka0_ (by decide) (q := (RX14, TX14, 67)) rfl) rfl hl.1 rfl (lv_room (Nat.le_of_ble_eq_true rfl)) dX14_readStatement_82 (cl_f hck_0) g hK (by decide) (by decide) (fx' := [(14, 8, a0_, .int x_845), (14, 7, a0_, .int x_47), (14, 6, a0_, .int x_1), (14, 2, a0_, .ref q0_), (14, 16, a0_, .int o_), (14, 25, a0_, .int op_), (14, 10, a0_, .int t_), (14, 17, a0_, .int me_), (14, 26, a0_, .int br_)]) rfl (fun xr_847 fr_847 H locs mxr_847 kxr_847 hp hMr_847 g => ?_) (fun fr_847 H locs hp hMr_847 g => ?_)
                · have hG_848 := isV.frame hMr_847 go_.2.2.2.1 mq0_ kq0_ (by decide) (by decide) hV
                  have hG_849 := FR.frame hMr_847 go_.2.2.2.1 mq0_ kq0_ (by decide) (by decide) FR.refl
                  have hG_850 := cEq.frame hMr_847 go_.2.2.2.1 ma0_ ka0_ (by decide) (by decide) hC_0
                  exact hp.elim
                · have hG_851 := isV.frame hMr_847 go_.2.2.2.1 mq0_ kq0_ (by decide) (by decide) hV
                  have hG_852 := FR.frame hMr_847 go_.2.2.2.1 mq0_ kq0_ (by decide) (by decide) FR.refl
                  have hG_853 := cEq.frame hMr_847 go_.2.2.2.1 ma0_ ka0_ (by decide) (by decide) hC_0
                  refine lv_aload_n hx hb dX14_readStatement_85 rfl (lv_at hl 1 rfl) ?_
                  refine g_getk (C := RX14) (T := TX14) (N := 67) hx hb hts (mc_ inX14) hown hK g rfl 6 (by decide) rfl (hts _ (List.mem_cons_of_mem _ t_2152)) (fun _ h9 => h9) 2 rfl dX14_readStatement_86 ?_
                  refine lv_iconst (v := 1) hx hb dX14_readStatement_89 (by decide) ?_
                  refine lv_icmp_ne (tgt := 98) hx hb dX14_readStatement_90 (by decide) (fun c_854 => ?_) (fun c_854 => ?_)
                  · have fc_854 := neq_f c_854
                    refine lv_aload_n hx hb dX14_readStatement_98 rfl (lv_at hl 1 rfl) ?_
                    have hs_855 := sE_1 g 2 rfl (by have h9_0 := bbr_; unfold bd at h9_0; have h9_1 := bme_; unfold bd at h9_1; have h9_2 := bo_; unfold bd at h9_2; have h9_3 := bop_; unfold bd at h9_3; have h9_4 := bt_; unfold bd at h9_4; have h9_5 := b_46; unfold bd at h9_5; have h9_6 := b_844; unfold bd at h9_6; have h9_7 := bx_845; unfold bd at h9_7; have h8_0 := kb_1; unfold bd at h8_0; have h8_1 := kb_12; unfold bd at h8_1; have h8_2 := kb_13; unfold bd at h8_2; have h8_3 := kb_15; unfold bd at h8_3; have h8_4 := kb_16; unfold bd at h8_4; have h8_5 := kb_17; unfold bd at h8_5; have h8_6 := kb_2; unfold bd at h8_6; omega)
                    have go_ := g
                    refine g_callEv (As := []) (rest := []) ⟨hx, hb, hml, hown, hts⟩ (r_X14_mayBegin_2 l dC dI L kd tys fr_847 H.size g.2.2.2.1 a0_ ma0_ ka0_ q0_ mq0_ kq0_ V_ hG_851 (g.fcts [3] rfl)) (cwV 0 hts (gV_ t_2558 t_2560 t_135 t_198 t_2561) rfl rfl rfl (by decide +kernel) ⟨(show 2 + 1 ≤ N + 1 + 493 by omega), (show 8 + (1 + 11) + 45 ≤ 60 * (N + 1) + 28500 by omega)⟩) (pre3V g hK ma0_ ka0_ (by decide) (q := (RX14, TX14, 67)) rfl) rfl hl.1 rfl (lv_room (Nat.le_of_ble_eq_true rfl)) dX14_readStatement_99 (cl_f hck_0) g hK (by decide) (by decide) (fx' := [(14, 8, a0_, .int x_845), (14, 7, a0_, .int x_47), (14, 6, a0_, .int x_1), (14, 2, a0_, .ref q0_), (14, 16, a0_, .int o_), (14, 25, a0_, .int op_), (14, 10, a0_, .int t_), (14, 17, a0_, .int me_), (14, 26, a0_, .int br_)]) rfl (fun xr_856 fr_856 H locs mxr_856 kxr_856 hp hMr_856 g => ?_) (fun fr_856 H locs hp hMr_856 g => ?_)
                    · have hG_857 := cEq.frame hMr_856 go_.2.2.2.1 ma0_ ka0_ (by decide) (by decide) hG_853
                      have hF_858 := FR.call (mds := []) (mas := []) hG_852 go_ mq0_ kq0_ rfl hp
                      subst hQ
                      exact leavesX hempty hlocks (fun t ht hW => g_thrZ g hK mxr_856 kxr_856 ⟨hF_858, (by omega)⟩ ht hW) g.2.2.1.2.2
                    · obtain ⟨hx_859, hx_860, -⟩ := hp
                      have hG_861 := cEq.frame hMr_856 go_.2.2.2.1 ma0_ ka0_ (by decide) (by decide) hG_853
                      have hF_862 := FR.call (mds := []) (mas := []) hG_852 go_ mq0_ kq0_ rfl hx_860
                      obtain ⟨V_863, hV_864, hN_865⟩ := hx_859
                      have hsi_866 := SI.nodes hsi_0 hN_865.1 (hN_865.2.1 hsi_0.2.2.1)
                      have hsi_866n : (V_863.n 46).toInt = (V_.n 46).toInt := by rw [exN.n46 hN_865.1]
                      have hN_865n := hN_865.2.2
                      refine lv_aload_n hx hb dX14_readStatement_102 rfl (lv_at hl 1 rfl) ?_
                      refine g_getk (C := RX14) (T := TX14) (N := 67) hx hb hts (mc_ inX14) hown hK g rfl 7 (by decide) rfl (hts _ (List.mem_cons_of_mem _ t_2153)) (fun _ h9 => h9) 1 rfl dX14_readStatement_103 ?_
                      refine lv_iconst (v := 1) hx hb dX14_readStatement_106 (by decide) ?_
                      refine lv_icmp_ne (tgt := 115) hx hb dX14_readStatement_107 (by decide) (fun c_867 => ?_) (fun c_867 => ?_)
                      · have fc_867 := neq_f c_867
                        refine lv_aload_n hx hb dX14_readStatement_115 rfl (lv_at hl 1 rfl) ?_
                        refine g_getk (C := RX14) (T := TX14) (N := 67) hx hb hts (mc_ inX14) hown hK g rfl 7 (by decide) rfl (hts _ (List.mem_cons_of_mem _ t_2153)) (fun _ h9 => h9) 1 rfl dX14_readStatement_116 ?_
                        refine lv_istore_n (lv' := [(2, .int x_47), (1, .int 1), (0, .ref a0_)]) hx hb dX14_readStatement_119 rfl hl (by decide) rfl (fun ls hl => ?_)
                        refine lv_aload_n hx hb dX14_readStatement_120 rfl (lv_at hl 2 rfl) ?_
                        refine lv_iload_n hx hb dX14_readStatement_121 rfl (lv_at hl 0 rfl) ?_
                        refine lv_bipush (v := 12) hx hb dX14_readStatement_122 (by decide) ?_
                        refine lv_icmp_ne (tgt := 131) hx hb dX14_readStatement_124 (by decide) (fun c_868 => ?_) (fun c_868 => ?_)
                        · have fc_868 := neq_f c_868
                          refine lv_iload_n hx hb dX14_readStatement_131 rfl (lv_at hl 0 rfl) ?_
                          refine lv_bipush (v := 13) hx hb dX14_readStatement_132 (by decide) ?_
                          refine lv_icmp_ne (tgt := 141) hx hb dX14_readStatement_134 (by decide) (fun c_869 => ?_) (fun c_869 => ?_)
                          · have fc_869 := neq_f c_869
                            refine lv_iload_n hx hb dX14_readStatement_141 rfl (lv_at hl 0 rfl) ?_
                            refine lv_bipush (v := 15) hx hb dX14_readStatement_142 (by decide) ?_
                            refine lv_icmp_ne (tgt := 151) hx hb dX14_readStatement_144 (by decide) (fun c_870 => ?_) (fun c_870 => ?_)
                            · have fc_870 := neq_f c_870
                              refine lv_iload_n hx hb dX14_readStatement_151 rfl (lv_at hl 0 rfl) ?_
                              refine lv_bipush (v := 16) hx hb dX14_readStatement_152 (by decide) ?_
                              refine lv_icmp_ne (tgt := 161) hx hb dX14_readStatement_154 (by decide) (fun c_871 => ?_) (fun c_871 => ?_)
                              · have fc_871 := neq_f c_871
                                refine lv_bipush (v := 6) hx hb dX14_readStatement_161 (by decide) ?_
                                have hs_872 := sE_1 g 2 rfl (by have h9_0 := bbr_; unfold bd at h9_0; have h9_1 := bme_; unfold bd at h9_1; have h9_2 := bo_; unfold bd at h9_2; have h9_3 := bop_; unfold bd at h9_3; have h9_4 := bt_; unfold bd at h9_4; have h9_5 := b_46; unfold bd at h9_5; have h9_6 := b_844; unfold bd at h9_6; have h9_7 := bx_845; unfold bd at h9_7; have h8_0 := kb_1; unfold bd at h8_0; have h8_1 := kb_12; unfold bd at h8_1; have h8_2 := kb_13; unfold bd at h8_2; have h8_3 := kb_15; unfold bd at h8_3; have h8_4 := kb_16; unfold bd at h8_4; have h8_5 := kb_17; unfold bd at h8_5; have h8_6 := kb_2; unfold bd at h8_6; omega)
                                have go_ := g
                                refine g_calli (va_runV (As := [.int 6]) (rest := []) ⟨hx, hb, hml, hown, hts⟩ (r_X14_statement l dC dI L kd tys fr_856 H.size g.2.2.2.1 a0_ ma0_ ka0_ 6 q0_ mq0_ kq0_ me_ bme_ V_863 hV_864 (by omega) (g.fcts [3, 7] rfl)) (cwV 1 hts (gV_ t_2554 t_2556 t_134 t_198 t_2557) rfl rfl rfl (by decide +kernel) ⟨(show 0 + 1 ≤ N + 1 + 493 by omega), (show 8 + (3 + 11) + 0 ≤ 60 * (N + 1) + 28500 by omega)⟩) (pre3V g hK ma0_ ka0_ (by decide) (q := (RX14, TX14, 67)) rfl) rfl rfl hl.1 rfl (lv_room (Nat.le_of_ble_eq_true rfl)) dX14_readStatement_163 (cl_f hck_0)) g hK (by decide) (by decide) (fx' := [(14, 8, a0_, .int x_845), (14, 7, a0_, .int x_47), (14, 6, a0_, .int x_1), (14, 2, a0_, .ref q0_), (14, 16, a0_, .int o_), (14, 25, a0_, .int op_), (14, 10, a0_, .int t_), (14, 17, a0_, .int me_), (14, 26, a0_, .int br_)]) rfl (fun r_873 fr_873 H locs hp hMr_873 g => ?_)
                                obtain ⟨hx_874, hx_875, h_876, x_877, h_878, hF_879⟩ := hp
                                have hG_880 := cEq.frame hMr_873 go_.2.2.2.1 ma0_ ka0_ (by decide) (by decide) hG_861
                                have hF_881 := FR.call (mds := []) (mas := []) hF_862 go_ mq0_ kq0_ rfl hx_875
                                obtain ⟨V_882, hV_883, hN_884⟩ := hx_874
                                obtain ⟨D_885, hd_886, hsi_887⟩ := SI.newE (b := br_.toNatClampNeg) hsi_866 hN_884 h_876.1
                                have hsi_887e : (V_882.n 57).toInt = (V_863.n 57).toInt := by rw [(hN_884).2.2.2.1]
                                have hsi_887f : r_873.toInt = (V_863.n 46).toInt := by rw [← (hN_884).2.1]
                                have hsi_887g := (hN_884).2.2.1
                                have hlt_889 : ((r_873.toNatClampNeg : Nat) : Int) < (V_882.n 46).toInt := by rw [tnZ h_876.1]; omega
                                have g := g.more hF_879
                                refine lv_istore_n (lv' := [(3, .int r_873), (2, .int x_47), (1, .int 1), (0, .ref a0_)]) hx hb dX14_readStatement_166 rfl hl (by decide) rfl (fun ls hl => ?_)
                                refine lv_aload_n hx hb dX14_readStatement_167 rfl (lv_at hl 3 rfl) ?_
                                have hs_890 := sE_1 g 3 rfl (by have h9_0 := bbr_; unfold bd at h9_0; have h9_1 := bme_; unfold bd at h9_1; have h9_2 := bo_; unfold bd at h9_2; have h9_3 := bop_; unfold bd at h9_3; have h9_4 := h_876; unfold bd at h9_4; have h9_5 := bt_; unfold bd at h9_5; have h9_6 := b_46; unfold bd at h9_6; have h9_7 := b_844; unfold bd at h9_7; have h9_8 := bx_845; unfold bd at h9_8; have h9_9 := h_878; unfold bd at h9_9; have h8_0 := kb_1; unfold bd at h8_0; have h8_1 := kb_12; unfold bd at h8_1; have h8_2 := kb_13; unfold bd at h8_2; have h8_3 := kb_15; unfold bd at h8_3; have h8_4 := kb_16; unfold bd at h8_4; have h8_5 := kb_17; unfold bd at h8_5; have h8_6 := kb_2; unfold bd at h8_6; omega)
                                have go_ := g
                                refine g_callEv (As := []) (rest := []) ⟨hx, hb, hml, hown, hts⟩ (r_X14_next_2 l dC dI L kd tys fr_873 H.size g.2.2.2.1 adK adV a0_ ma0_ ka0_ t_ bt_ (g.fcts [7] rfl)) (cwV 0 hts (gV_ t_2411 t_2413 t_102 t_198 t_2414) rfl rfl rfl (by decide +kernel) ⟨(show 6 + 1 ≤ N + 1 + 493 by omega), (show 8 + (1 + 11) + 135 ≤ 60 * (N + 1) + 28500 by omega)⟩) (pre3VA g hK hAm ma0_ ka0_ (by decide) (q := (RX14, TX14, 67)) rfl) rfl hl.1 rfl (lv_room (Nat.le_of_ble_eq_true rfl)) dX14_readStatement_168 (cl_f hck_0) g hK (by decide) (by decide) (fx' := [(12, 46, q0_, .int x_877), (14, 2, a0_, .ref q0_), (14, 16, a0_, .int o_), (14, 25, a0_, .int op_), (14, 17, a0_, .int me_), (14, 26, a0_, .int br_)]) rfl (fun xr_891 fr_891 H locs mxr_891 kxr_891 hp hMr_891 g => ?_) (fun fr_891 H locs hp hMr_891 g => ?_)
                                · have hG_892 := FR.frame hMr_891 go_.2.2.2.1 mq0_ kq0_ (by decide) (by decide) hF_881
                                  have hG_893 := isV.frame hMr_891 go_.2.2.2.1 mq0_ kq0_ (by decide) (by decide) hV_883
                                  subst hQ
                                  exact leavesX hempty hlocks (fun t ht hW => g_thrZ g hK mxr_891 kxr_891 ⟨hG_892, (by omega)⟩ ht hW) g.2.2.1.2.2
                                · obtain ⟨hx_894, h_895, x_896, h_897, hF_898⟩ := hp
                                  have hG_899 := FR.frame hMr_891 go_.2.2.2.1 mq0_ kq0_ (by decide) (by decide) hF_881
                                  have hG_900 := isV.frame hMr_891 go_.2.2.2.1 mq0_ kq0_ (by decide) (by decide) hV_883
                                  obtain ⟨E_901, hE_901⟩ : ∃ E : Int, cEq fr_891 a0_ E := ⟨_, rfl⟩
                                  have mxE_901 : E_901 ≤ 1202 := by have h9 := cF_le g ma0_ ka0_; have h8 : cF _ _ = _ := hE_901; omega
                                  have lE_901 : (cF f0 a0_) + 1 ≤ E_901 := by have h9 := hx_894; have h8 : cF _ _ = _ := hE_901; have h7 : cF _ _ = _ := hG_880; have h6 := hs_890; have h5 := tk_c (f := fr_873) (t := a0_); omega
                                  have b_902 : bd 0 1200 t_ := eqX rfl bt_ h_895 (by decide)
                                  have g := g.more hF_898
                                  refine lv_iload_n hx hb dX14_readStatement_171 rfl (lv_at hl 1 rfl) ?_
                                  by_cases e_903 : x_47 = 12
                                  · refine lv_topi (fun z_904 ez_904 => ?_)
                                    obtain rfl : z_904 = 12 := ez_904.trans e_903
                                    exact bd_no (eqX (eq_f e_903) b_844 kb_12 (lo := 17) (hi := 12) (by decide)) (by decide)
                                  by_cases e_905 : x_47 = 13
                                  · refine lv_topi (fun z_906 ez_906 => ?_)
                                    obtain rfl : z_906 = 13 := ez_906.trans e_905
                                    exact bd_no (eqX (eq_f e_905) b_844 kb_13 (lo := 17) (hi := 13) (by decide)) (by decide)
                                  by_cases e_907 : x_47 = 14
                                  · refine lv_topi (fun z_908 ez_908 => ?_)
                                    obtain rfl : z_908 = 14 := ez_908.trans e_907
                                    have kb_14 : bd 14 14 (14 : Int32) := ⟨by decide, by decide⟩
                                    exact bd_no (eqX (eq_f e_907) b_844 kb_14 (lo := 17) (hi := 14) (by decide)) (by decide)
                                  by_cases e_909 : x_47 = 15
                                  · refine lv_topi (fun z_910 ez_910 => ?_)
                                    obtain rfl : z_910 = 15 := ez_910.trans e_909
                                    exact bd_no (eqX (eq_f e_909) b_844 kb_15 (lo := 17) (hi := 15) (by decide)) (by decide)
                                  by_cases e_911 : x_47 = 16
                                  · refine lv_topi (fun z_912 ez_912 => ?_)
                                    obtain rfl : z_912 = 16 := ez_912.trans e_911
                                    exact bd_no (eqX (eq_f e_911) b_844 kb_16 (lo := 17) (hi := 16) (by decide)) (by decide)
                                  refine lv_tableOut (tgt := 480) hx hb dX14_readStatement_172 (by have a0 : x_47.toInt ≠ 12 := fun h => e_903 (Int32.toInt_inj.mp (h.trans (by decide))); have a1 : x_47.toInt ≠ 13 := fun h => e_905 (Int32.toInt_inj.mp (h.trans (by decide))); have a2 : x_47.toInt ≠ 14 := fun h => e_907 (Int32.toInt_inj.mp (h.trans (by decide))); have a3 : x_47.toInt ≠ 15 := fun h => e_909 (Int32.toInt_inj.mp (h.trans (by decide))); have a4 : x_47.toInt ≠ 16 := fun h => e_911 (Int32.toInt_inj.mp (h.trans (by decide))); omega) (by decide) ?_
                                  refine lv_aload_n hx hb dX14_readStatement_480 rfl (lv_at hl 3 rfl) ?_
                                  refine lv_aload_n hx hb dX14_readStatement_481 rfl (lv_at hl 3 rfl) ?_
                                  refine g_geti (C := RX14) (T := TX14) (N := 67) hx hb hts (mc_ inX14) hown hK g ma0_ ka0_ (by decide) rfl 6 (by decide) rfl (hts _ (List.mem_cons_of_mem _ t_2152)) (fun _ h9 => h9) rfl dX14_readStatement_482 (fun x_913 bx_913 g => ?_)
                                  refine lv_iconst (v := 1) hx hb dX14_readStatement_485 (by decide) ?_
                                  refine lv_icmp_ne (tgt := 493) hx hb dX14_readStatement_486 (by decide) (fun c_914 => ?_) (fun c_914 => ?_)
                                  · have fc_914 := neq_f c_914
                                    refine lv_iconst (v := 0) hx hb dX14_readStatement_493 (by decide) ?_
                                    refine lv_iconst (v := 1) hx hb dX14_readStatement_494 (by decide) ?_
                                    refine lv_aload_n hx hb dX14_readStatement_495 rfl (lv_at hl 3 rfl) ?_
                                    refine g_geti (C := RX14) (T := TX14) (N := 67) hx hb hts (mc_ inX14) hown hK g ma0_ ka0_ (by decide) rfl 8 (by decide) rfl (hts _ (List.mem_cons_of_mem _ t_2154)) (fun _ h9 => h9) rfl dX14_readStatement_496 (fun x_915 bx_915 g => ?_)
                                    have kb_0 : bd 0 0 (0 : Int32) := ⟨by decide, by decide⟩
                                    have go_ := g
                                    refine g_callEv (As := [.int 0, .int 1, .int x_915]) (rest := []) ⟨hx, hb, hml, hown, hts⟩ (r_X14_need_2 l dC dI L kd tys fr_891 H.size g.2.2.2.1 a0_ ma0_ ka0_ 0 kb_0 1 x_915) (cwV 3 hts (gV_ t_2403 t_2405 t_100 t_198 t_2406) rfl rfl rfl (by decide +kernel) ⟨(show 1 + 1 ≤ N + 1 + 493 by omega), (show 8 + (4 + 11) + 22 ≤ 60 * (N + 1) + 28500 by omega)⟩) (pre3V g hK ma0_ ka0_ (by decide) (q := (RX14, TX14, 67)) rfl) rfl hl.1 rfl (lv_room (Nat.le_of_ble_eq_true rfl)) dX14_readStatement_499 (cl_f hck_0) g hK (by decide) (by decide) (fx' := [(14, 8, a0_, .int x_915), (14, 6, a0_, .int x_913), (14, 10, a0_, .int x_896), (12, 46, q0_, .int x_877), (14, 2, a0_, .ref q0_), (14, 16, a0_, .int o_), (14, 25, a0_, .int op_), (14, 17, a0_, .int me_), (14, 26, a0_, .int br_)]) rfl (fun xr_916 fr_916 H locs mxr_916 kxr_916 hp hMr_916 g => ?_) (fun fr_916 H locs hp hMr_916 g => ?_)
                                    · have hG_917 := FR.frame hMr_916 go_.2.2.2.1 mq0_ kq0_ (by decide) (by decide) hG_899
                                      have hG_918 := isV.frame hMr_916 go_.2.2.2.1 mq0_ kq0_ (by decide) (by decide) hG_900
                                      have hG_919 := cEq.frame hMr_916 go_.2.2.2.1 ma0_ ka0_ (by decide) (by decide) hE_901
                                      subst hQ
                                      exact leavesX hempty hlocks (fun t ht hW => g_thrZ g hK mxr_916 kxr_916 ⟨hG_917, (by omega)⟩ ht hW) g.2.2.1.2.2
                                    · exact hp.elim
                                  · have fc_914 := eq_f c_914
                                    have b_920 : bd 1 1 x_913 := eqX fc_914 bx_913 kb_1 (by decide)
                                    refine lv_iconst (v := 1) hx hb dX14_readStatement_489 (by decide) ?_
                                    refine lv_goto (tgt := 494) hx hb dX14_readStatement_490 (by decide) ?_
                                    refine lv_iconst (v := 1) hx hb dX14_readStatement_494 (by decide) ?_
                                    refine lv_aload_n hx hb dX14_readStatement_495 rfl (lv_at hl 3 rfl) ?_
                                    refine g_geti (C := RX14) (T := TX14) (N := 67) hx hb hts (mc_ inX14) hown hK g ma0_ ka0_ (by decide) rfl 8 (by decide) rfl (hts _ (List.mem_cons_of_mem _ t_2154)) (fun _ h9 => h9) rfl dX14_readStatement_496 (fun x_921 bx_921 g => ?_)
                                    have hs_922 := sE_1 g 1 rfl (by have h9_0 := bbr_; unfold bd at h9_0; have h9_1 := bme_; unfold bd at h9_1; have h9_2 := bo_; unfold bd at h9_2; have h9_3 := bop_; unfold bd at h9_3; have h9_4 := h_876; unfold bd at h9_4; have h9_5 := b_902; unfold bd at h9_5; have h9_6 := b_46; unfold bd at h9_6; have h9_7 := b_844; unfold bd at h9_7; have h9_8 := bx_845; unfold bd at h9_8; have h9_9 := h_878; unfold bd at h9_9; have h9_10 := h_897; unfold bd at h9_10; have h9_11 := b_920; unfold bd at h9_11; have h9_12 := bx_921; unfold bd at h9_12; have h8_0 := kb_1; unfold bd at h8_0; have h8_1 := kb_12; unfold bd at h8_1; have h8_2 := kb_13; unfold bd at h8_2; have h8_3 := kb_15; unfold bd at h8_3; have h8_4 := kb_16; unfold bd at h8_4; have h8_5 := kb_17; unfold bd at h8_5; have h8_6 := kb_2; unfold bd at h8_6; omega)
                                    have go_ := g
                                    refine g_callEv (As := [.int 1, .int 1, .int x_921]) (rest := []) ⟨hx, hb, hml, hown, hts⟩ (r_X14_need_3 l dC dI L kd tys fr_891 H.size g.2.2.2.1 a0_ ma0_ ka0_ 1 kb_1 1 x_921) (cwV 3 hts (gV_ t_2403 t_2405 t_100 t_198 t_2406) rfl rfl rfl (by decide +kernel) ⟨(show 0 + 1 ≤ N + 1 + 493 by omega), (show 8 + (4 + 11) + 0 ≤ 60 * (N + 1) + 28500 by omega)⟩) (pre3V g hK ma0_ ka0_ (by decide) (q := (RX14, TX14, 67)) rfl) rfl hl.1 rfl (lv_room (Nat.le_of_ble_eq_true rfl)) dX14_readStatement_499 (cl_f hck_0) g hK (by decide) (by decide) (fx' := [(14, 8, a0_, .int x_921), (14, 6, a0_, .int x_913), (14, 10, a0_, .int x_896), (12, 46, q0_, .int x_877), (14, 2, a0_, .ref q0_), (14, 16, a0_, .int o_), (14, 25, a0_, .int op_), (14, 17, a0_, .int me_), (14, 26, a0_, .int br_)]) rfl (fun xr_923 fr_923 H locs mxr_923 kxr_923 hp hMr_923 g => ?_) (fun fr_923 H locs hp hMr_923 g => ?_)
                                    · have hG_924 := FR.frame hMr_923 go_.2.2.2.1 mq0_ kq0_ (by decide) (by decide) hG_899
                                      have hG_925 := isV.frame hMr_923 go_.2.2.2.1 mq0_ kq0_ (by decide) (by decide) hG_900
                                      have hG_926 := cEq.frame hMr_923 go_.2.2.2.1 ma0_ ka0_ (by decide) (by decide) hE_901
                                      exact hp.elim
                                    · have hG_927 := FR.frame hMr_923 go_.2.2.2.1 mq0_ kq0_ (by decide) (by decide) hG_899
                                      have hG_928 := isV.frame hMr_923 go_.2.2.2.1 mq0_ kq0_ (by decide) (by decide) hG_900
                                      have hG_929 := cEq.frame hMr_923 go_.2.2.2.1 ma0_ ka0_ (by decide) (by decide) hE_901
                                      refine lv_aload_n hx hb dX14_readStatement_502 rfl (lv_at hl 3 rfl) ?_
                                      refine g_getk (C := RX14) (T := TX14) (N := 67) hx hb hts (mc_ inX14) hown hK g rfl 2 (by decide) rfl (hts _ (List.mem_cons_of_mem _ t_2148)) (fun _ h9 => h9) 4 rfl dX14_readStatement_503 ?_
                                      refine g_getr (K := 198) (C := RX12) (T := TX12) (N := 60) hx hb hts (mc_ inX12) hown hK g mq0_ kq0_ (by decide) rfl 43 (by decide) rfl (hts _ (List.mem_cons_of_mem _ t_1991)) (fun _ h9 => h9) rfl dX14_readStatement_506 (fun a_930 ma_930 ka_930 g => ?_)
                                      refine lv_iload_n hx hb dX14_readStatement_509 rfl (lv_at hl 0 rfl) ?_
                                      refine lv_aload_n hx hb dX14_readStatement_510 rfl (lv_at hl 3 rfl) ?_
                                      refine g_getl (C := RX14) (T := TX14) (N := 67) hx hb hts (mc_ inX14) hown hK g ma0_ ka0_ (by decide) rfl 12 (by decide) rfl (hts _ (List.mem_cons_of_mem _ t_2158)) (fun _ h9 => h9) rfl dX14_readStatement_511 (fun x_931 g => ?_)
                                      have gp_932 := g
                                      have go_ := g
                                      refine g_lastX hx hb hK g ma_930 ka_930 (by decide) rfl (in_bd h_876 (by decide)) (by decide) dX14_readStatement_514 (fun f H locs hM_933 u_935 g => ?_)
                                      have hG_934 := cEq.frame hM_933 go_.2.2.2.1 ma0_ ka0_ (by decide) (by decide) hG_929
                                      have hV_936 := isV.ul hG_928 gp_932 1 rfl mq0_ kq0_ rfl u_935
                                      have hF_937 := FR.arr hG_927 gp_932 1 rfl mq0_ kq0_ rfl rfl u_935.1
                                      obtain ⟨V_938, hV_939, hsi_940, hst_941, hlt_942, hne_943, hne_943b⟩ : ∃ V1 : PV, isV f q0_ V1 ∧ SI V_ δ_ V1 D_885 (fun k => U_ k ∨ k = r_873.toNatClampNeg) ∧ ST V1 r_873.toNatClampNeg (6 : Int32) ((-1) : Int32) ((-1) : Int32) ((-1) : Int32) ((-1) : Int32) ((-1) : Int32) ((-1) : Int32) (-1) me_ ∧ ((r_873.toNatClampNeg : Nat) : Int) < (V1.n 46).toInt ∧ (V1.n 57).toInt = (V_882.n 57).toInt ∧ (V1.n 46).toInt = (V_882.n 46).toInt := ⟨_, hV_936, SI.ul_ hsi_887 (Or.inl rfl), ST.ul_ (hN_884).2.2.2.2.1, hlt_889, rfl, rfl⟩
                                      refine lv_aload_n hx hb dX14_readStatement_515 rfl (lv_at hl 3 rfl) ?_
                                      refine g_getk (C := RX14) (T := TX14) (N := 67) hx hb hts (mc_ inX14) hown hK g rfl 2 (by decide) rfl (hts _ (List.mem_cons_of_mem _ t_2148)) (fun _ h9 => h9) 6 rfl dX14_readStatement_516 ?_
                                      refine g_getr (K := 199) (C := RX12) (T := TX12) (N := 60) hx hb hts (mc_ inX12) hown hK g mq0_ kq0_ (by decide) rfl 44 (by decide) rfl (hts _ (List.mem_cons_of_mem _ t_1993)) (fun _ h9 => h9) rfl dX14_readStatement_519 (fun a_944 ma_944 ka_944 g => ?_)
                                      refine lv_iload_n hx hb dX14_readStatement_522 rfl (lv_at hl 0 rfl) ?_
                                      refine lv_aload_n hx hb dX14_readStatement_523 rfl (lv_at hl 3 rfl) ?_
                                      refine g_getl (C := RX14) (T := TX14) (N := 67) hx hb hts (mc_ inX14) hown hK g ma0_ ka0_ (by decide) rfl 13 (by decide) rfl (hts _ (List.mem_cons_of_mem _ t_2159)) (fun _ h9 => h9) rfl dX14_readStatement_524 (fun x_945 g => ?_)
                                      have gp_946 := g
                                      have go_ := g
                                      refine g_lastX hx hb hK g ma_944 ka_944 (by decide) rfl (in_bd h_876 (by decide)) (by decide) dX14_readStatement_527 (fun f H locs hM_947 u_949 g => ?_)
                                      have hG_948 := cEq.frame hM_947 go_.2.2.2.1 ma0_ ka0_ (by decide) (by decide) hG_934
                                      have hV_950 := isV.ul hV_939 gp_946 1 rfl mq0_ kq0_ rfl u_949
                                      have hF_951 := FR.arr hF_937 gp_946 1 rfl mq0_ kq0_ rfl rfl u_949.1
                                      obtain ⟨V_952, hV_953, hsi_954, hst_955, hlt_956, hne_957, hne_957b⟩ : ∃ V1 : PV, isV f q0_ V1 ∧ SI V_ δ_ V1 D_885 (fun k => U_ k ∨ k = r_873.toNatClampNeg) ∧ ST V1 r_873.toNatClampNeg (6 : Int32) ((-1) : Int32) ((-1) : Int32) ((-1) : Int32) ((-1) : Int32) ((-1) : Int32) ((-1) : Int32) (-1) me_ ∧ ((r_873.toNatClampNeg : Nat) : Int) < (V1.n 46).toInt ∧ (V1.n 57).toInt = (V_938.n 57).toInt ∧ (V1.n 46).toInt = (V_938.n 46).toInt := ⟨_, hV_950, SI.ul_ hsi_940 (Or.inr rfl), ST.ul_ hst_941, hlt_942, rfl, rfl⟩
                                      refine lv_aload_n hx hb dX14_readStatement_528 rfl (lv_at hl 3 rfl) ?_
                                      have hs_958 := sE_1 g 5 rfl (by have h9_0 := bbr_; unfold bd at h9_0; have h9_1 := bme_; unfold bd at h9_1; have h9_2 := bo_; unfold bd at h9_2; have h9_3 := bop_; unfold bd at h9_3; have h9_4 := h_876; unfold bd at h9_4; have h9_5 := b_902; unfold bd at h9_5; have h9_6 := b_46; unfold bd at h9_6; have h9_7 := b_844; unfold bd at h9_7; have h9_8 := bx_845; unfold bd at h9_8; have h9_9 := h_878; unfold bd at h9_9; have h9_10 := h_897; unfold bd at h9_10; have h9_11 := b_920; unfold bd at h9_11; have h9_12 := bx_921; unfold bd at h9_12; have h8_0 := kb_1; unfold bd at h8_0; have h8_1 := kb_12; unfold bd at h8_1; have h8_2 := kb_13; unfold bd at h8_2; have h8_3 := kb_15; unfold bd at h8_3; have h8_4 := kb_16; unfold bd at h8_4; have h8_5 := kb_17; unfold bd at h8_5; have h8_6 := kb_2; unfold bd at h8_6; omega)
                                      have go_ := g
                                      refine g_callEv (As := []) (rest := []) ⟨hx, hb, hml, hown, hts⟩ (r_X14_next_2 l dC dI L kd tys f H.size g.2.2.2.1 adK adV a0_ ma0_ ka0_ x_896 h_897 (g.fcts [6] rfl)) (cwV 0 hts (gV_ t_2411 t_2413 t_102 t_198 t_2414) rfl rfl rfl (by decide +kernel) ⟨(show 6 + 1 ≤ N + 1 + 493 by omega), (show 8 + (1 + 11) + 135 ≤ 60 * (N + 1) + 28500 by omega)⟩) (pre3VA g hK hAm ma0_ ka0_ (by decide) (q := (RX14, TX14, 67)) rfl) rfl hl.1 rfl (lv_room (Nat.le_of_ble_eq_true rfl)) dX14_readStatement_529 (cl_f hck_0) g hK (by decide) (by decide) (fx' := [(12, 44, q0_, .ref a_944), (12, 43, q0_, .ref a_930), (12, 46, q0_, .int x_877), (14, 2, a0_, .ref q0_), (14, 16, a0_, .int o_), (14, 25, a0_, .int op_), (14, 17, a0_, .int me_), (14, 26, a0_, .int br_)]) rfl (fun xr_959 fr_959 H locs mxr_959 kxr_959 hp hMr_959 g => ?_) (fun fr_959 H locs hp hMr_959 g => ?_)
                                      · have hG_960 := isV.frame hMr_959 go_.2.2.2.1 mq0_ kq0_ (by decide) (by decide) hV_953
                                        have hG_961 := FR.frame hMr_959 go_.2.2.2.1 mq0_ kq0_ (by decide) (by decide) hF_951
                                        subst hQ
                                        exact leavesX hempty hlocks (fun t ht hW => g_thrZ g hK mxr_959 kxr_959 ⟨hG_961, (by omega)⟩ ht hW) g.2.2.1.2.2
                                      · obtain ⟨hx_962, h_963, x_964, h_965, hF_966⟩ := hp
                                        have hG_967 := isV.frame hMr_959 go_.2.2.2.1 mq0_ kq0_ (by decide) (by decide) hV_953
                                        have hG_968 := FR.frame hMr_959 go_.2.2.2.1 mq0_ kq0_ (by decide) (by decide) hF_951
                                        obtain ⟨E_969, hE_969⟩ : ∃ E : Int, cEq fr_959 a0_ E := ⟨_, rfl⟩
                                        have mxE_969 : E_969 ≤ 1202 := by have h9 := cF_le g ma0_ ka0_; have h8 : cF _ _ = _ := hE_969; omega
                                        have lE_969 : E_901 + 1 ≤ E_969 := by have h9 := hx_962; have h8 : cF _ _ = _ := hE_969; have h7 : cF _ _ = _ := hG_948; have h6 := hs_958; have h5 := tk_c (f := f) (t := a0_); omega
                                        have b_970 : bd 0 1200 x_896 := eqX rfl h_897 h_963 (by decide)
                                        have g := g.more hF_966
                                        refine lv_aload_n hx hb dX14_readStatement_532 rfl (lv_at hl 3 rfl) ?_
                                        refine lv_bipush (v := 59) hx hb dX14_readStatement_533 (by decide) ?_
                                        have go_ := g
                                        refine g_callEv (As := [.int 59]) (rest := []) ⟨hx, hb, hml, hown, hts⟩ (r_X14_sign_2 l dC dI L kd tys fr_959 H.size g.2.2.2.1 adK adV a0_ ma0_ ka0_ 59 x_964 h_965 (g.fcts [0] rfl)) (cwV 1 hts (gV_ t_2431 t_2433 t_107 t_198 t_2434) rfl rfl rfl (by decide +kernel) ⟨(show 7 + 1 ≤ N + 1 + 493 by omega), (show 8 + (2 + 11) + 155 ≤ 60 * (N + 1) + 28500 by omega)⟩) (pre3VA g hK hAm ma0_ ka0_ (by decide) (q := (RX14, TX14, 67)) rfl) rfl hl.1 rfl (lv_room (Nat.le_of_ble_eq_true rfl)) dX14_readStatement_535 (cl_f hck_0) g hK (by decide) (by decide) (fx' := [(12, 44, q0_, .ref a_944), (12, 43, q0_, .ref a_930), (12, 46, q0_, .int x_877), (14, 2, a0_, .ref q0_), (14, 16, a0_, .int o_), (14, 25, a0_, .int op_), (14, 17, a0_, .int me_), (14, 26, a0_, .int br_)]) rfl (fun xr_971 fr_971 H locs mxr_971 kxr_971 hp hMr_971 g => ?_) (fun fr_971 H locs hp hMr_971 g => ?_)
                                        · have hG_972 := isV.frame hMr_971 go_.2.2.2.1 mq0_ kq0_ (by decide) (by decide) hG_967
                                          have hG_973 := FR.frame hMr_971 go_.2.2.2.1 mq0_ kq0_ (by decide) (by decide) hG_968
                                          subst hQ
                                          exact leavesX hempty hlocks (fun t ht hW => g_thrZ g hK mxr_971 kxr_971 ⟨hG_973, (by omega)⟩ ht hW) g.2.2.1.2.2
                                        · obtain ⟨hx_974, h_975, x_976, h_977, hF_978⟩ := hp
                                          have hG_979 := isV.frame hMr_971 go_.2.2.2.1 mq0_ kq0_ (by decide) (by decide) hG_967
                                          have hG_980 := FR.frame hMr_971 go_.2.2.2.1 mq0_ kq0_ (by decide) (by decide) hG_968
                                          obtain ⟨E_981, hE_981⟩ : ∃ E : Int, cEq fr_971 a0_ E := ⟨_, rfl⟩
                                          have mxE_981 : E_981 ≤ 1202 := by have h9 := cF_le g ma0_ ka0_; have h8 : cF _ _ = _ := hE_981; omega
                                          have lE_981 : E_969 + 1 ≤ E_981 := by have h9 := hx_974; have h8 : cF _ _ = _ := hE_981; have h7 : cF _ _ = _ := hE_969; omega
                                          have b_982 : bd 0 1200 x_964 := eqX rfl h_965 h_975 (by decide)
                                          have g := g.more hF_978
                                          refine lv_iload_n hx hb dX14_readStatement_538 rfl (lv_at hl 0 rfl) ?_
                                          have hok_983 := st_ok (d := o_.toNatClampNeg) hst_955 hd_886 (lv_bd bbr_) rfl (by rw [hsi_954.1.2.2.1 27 (by decide) (by decide)]; exact hm27) (by rw [hsi_954.1.1 18 (by decide) (by decide)]; exact hm18) (Or.inl (by decide)) (fun h9 => absurd h9 (by decide)) (fun h9 => absurd h9 (by decide)) (fun h9 => absurd h9 (by decide)) (fun h9 => absurd h9 (by decide)) (fun h9 => absurd h9 (by decide)) (fun h9 => absurd h9 (by decide))
                                          have hsi_984 := SI.close hsi_954 hok_983
                                          have h9c : cF fr_971 a0_ = _ := hE_981
                                          subst hQ
                                          exact iretX (v := r_873) hx hb hr (fun t ht hW => g_retZ g hK ⟨_, rfl, ⟨⟨_, _, hG_979, hG_980, hsi_984, ⟨(by omega), (by have h9 := hlt_956; rw [tnZ h_876.1] at h9; exact h9), hd_886, (by rw [hst_955.2.2.2.2.2.2.2.2])⟩, (by omega), (by omega), (by omega), (by omega)⟩, x_976, h_977, (g.fcts [6, 8, 0] rfl)⟩⟩ ht hW) g.2.2.1.2.2 dX14_readStatement_539 hlocks
                              · have fc_871 := eq_f c_871
                                exact absurd fc_871 fc_714
                            · have fc_870 := eq_f c_870
                              exact absurd fc_870 fc_555
                          · have fc_869 := eq_f c_869
                            exact absurd fc_869 fc_331
                        · have fc_868 := eq_f c_868
                          exact absurd fc_868 fc_48
                      · have fc_867 := eq_f c_867
                        have b_985 : bd 17 1 x_47 := eqX fc_867 b_844 kb_1 (by decide)
                        exact bd_no b_985 (by decide)
                  · have fc_854 := eq_f c_854
                    exact absurd fc_854 fc_2
              · have fc_843 := neq_f c_843
                refine lv_aload_n hx hb dX14_readStatement_61 rfl (lv_at hl 0 rfl) ?_
                refine g_getk (C := RX14) (T := TX14) (N := 67) hx hb hts (mc_ inX14) hown hK g rfl 7 (by decide) rfl (hts _ (List.mem_cons_of_mem _ t_2153)) (fun _ h9 => h9) 0 rfl dX14_readStatement_62 ?_
                refine lv_iconst (v := 1) hx hb dX14_readStatement_65 (by decide) ?_
                refine lv_icmp_ne (tgt := 73) hx hb dX14_readStatement_66 (by decide) (fun c_986 => ?_) (fun c_986 => ?_)
                · have fc_986 := neq_f c_986
                  refine lv_iconst (v := 0) hx hb dX14_readStatement_73 (by decide) ?_
                  refine lv_istore_n (lv' := [(1, .int 0), (0, .ref a0_)]) hx hb dX14_readStatement_74 rfl hl (by decide) rfl (fun ls hl => ?_)
                  refine lv_aload_n hx hb dX14_readStatement_75 rfl (lv_at hl 1 rfl) ?_
                  refine lv_iload_n hx hb dX14_readStatement_76 rfl (lv_at hl 0 rfl) ?_
                  refine lv_iconst (v := 1) hx hb dX14_readStatement_77 (by decide) ?_
                  refine lv_aload_n hx hb dX14_readStatement_78 rfl (lv_at hl 1 rfl) ?_
                  refine g_geti (C := RX14) (T := TX14) (N := 67) hx hb hts (mc_ inX14) hown hK g ma0_ ka0_ (by decide) rfl 8 (by decide) rfl (hts _ (List.mem_cons_of_mem _ t_2154)) (fun _ h9 => h9) rfl dX14_readStatement_79 (fun x_987 bx_987 g => ?_)
                  have hs_988 := sE_1 g 2 rfl (by have h9_0 := bbr_; unfold bd at h9_0; have h9_1 := bme_; unfold bd at h9_1; have h9_2 := bo_; unfold bd at h9_2; have h9_3 := bop_; unfold bd at h9_3; have h9_4 := bt_; unfold bd at h9_4; have h9_5 := b_46; unfold bd at h9_5; have h9_6 := bx_987; unfold bd at h9_6; have h8_0 := kb_1; unfold bd at h8_0; have h8_1 := kb_12; unfold bd at h8_1; have h8_2 := kb_13; unfold bd at h8_2; have h8_3 := kb_15; unfold bd at h8_3; have h8_4 := kb_16; unfold bd at h8_4; have h8_5 := kb_17; unfold bd at h8_5; have h8_6 := kb_2; unfold bd at h8_6; omega)
                  have kb_0 : bd 0 0 (0 : Int32) := ⟨by decide, by decide⟩
                  have go_ := g
                  refine g_callEv (As := [.int 0, .int 1, .int x_987]) (rest := []) ⟨hx, hb, hml, hown, hts⟩ (r_X14_need_2 l dC dI L kd tys f0 s.heap.size g.2.2.2.1 a0_ ma0_ ka0_ 0 kb_0 1 x_987) (cwV 3 hts (gV_ t_2403 t_2405 t_100 t_198 t_2406) rfl rfl rfl (by decide +kernel) ⟨(show 1 + 1 ≤ N + 1 + 493 by omega), (show 8 + (4 + 11) + 22 ≤ 60 * (N + 1) + 28500 by omega)⟩) (pre3V g hK ma0_ ka0_ (by decide) (q := (RX14, TX14, 67)) rfl) rfl hl.1 rfl (lv_room (Nat.le_of_ble_eq_true rfl)) dX14_readStatement_82 (cl_f hck_0) g hK (by decide) (by decide) (fx' := [(14, 8, a0_, .int x_987), (14, 7, a0_, .int x_47), (14, 6, a0_, .int x_1), (14, 2, a0_, .ref q0_), (14, 16, a0_, .int o_), (14, 25, a0_, .int op_), (14, 10, a0_, .int t_), (14, 17, a0_, .int me_), (14, 26, a0_, .int br_)]) rfl (fun xr_989 fr_989 H locs mxr_989 kxr_989 hp hMr_989 g => ?_) (fun fr_989 H locs hp hMr_989 g => ?_)
                  · have hG_990 := isV.frame hMr_989 go_.2.2.2.1 mq0_ kq0_ (by decide) (by decide) hV
                    have hG_991 := FR.frame hMr_989 go_.2.2.2.1 mq0_ kq0_ (by decide) (by decide) FR.refl
                    have hG_992 := cEq.frame hMr_989 go_.2.2.2.1 ma0_ ka0_ (by decide) (by decide) hC_0
                    subst hQ
                    exact leavesX hempty hlocks (fun t ht hW => g_thrZ g hK mxr_989 kxr_989 ⟨hG_991, (by omega)⟩ ht hW) g.2.2.1.2.2
                  · exact hp.elim
                · have fc_986 := eq_f c_986
                  have b_993 : bd 1 1 x_47 := eqX fc_986 (bdT x_47) kb_1 (by decide)
                  refine lv_iconst (v := 1) hx hb dX14_readStatement_69 (by decide) ?_
                  refine lv_goto (tgt := 74) hx hb dX14_readStatement_70 (by decide) ?_
                  refine lv_istore_n (lv' := [(1, .int 1), (0, .ref a0_)]) hx hb dX14_readStatement_74 rfl hl (by decide) rfl (fun ls hl => ?_)
                  refine lv_aload_n hx hb dX14_readStatement_75 rfl (lv_at hl 1 rfl) ?_
                  refine lv_iload_n hx hb dX14_readStatement_76 rfl (lv_at hl 0 rfl) ?_
                  refine lv_iconst (v := 1) hx hb dX14_readStatement_77 (by decide) ?_
                  refine lv_aload_n hx hb dX14_readStatement_78 rfl (lv_at hl 1 rfl) ?_
                  refine g_geti (C := RX14) (T := TX14) (N := 67) hx hb hts (mc_ inX14) hown hK g ma0_ ka0_ (by decide) rfl 8 (by decide) rfl (hts _ (List.mem_cons_of_mem _ t_2154)) (fun _ h9 => h9) rfl dX14_readStatement_79 (fun x_994 bx_994 g => ?_)
                  have hs_995 := sE_1 g 2 rfl (by have h9_0 := bbr_; unfold bd at h9_0; have h9_1 := bme_; unfold bd at h9_1; have h9_2 := bo_; unfold bd at h9_2; have h9_3 := bop_; unfold bd at h9_3; have h9_4 := bt_; unfold bd at h9_4; have h9_5 := b_46; unfold bd at h9_5; have h9_6 := b_993; unfold bd at h9_6; have h9_7 := bx_994; unfold bd at h9_7; have h8_0 := kb_1; unfold bd at h8_0; have h8_1 := kb_12; unfold bd at h8_1; have h8_2 := kb_13; unfold bd at h8_2; have h8_3 := kb_15; unfold bd at h8_3; have h8_4 := kb_16; unfold bd at h8_4; have h8_5 := kb_17; unfold bd at h8_5; have h8_6 := kb_2; unfold bd at h8_6; omega)
                  have go_ := g
                  refine g_callEv (As := [.int 1, .int 1, .int x_994]) (rest := []) ⟨hx, hb, hml, hown, hts⟩ (r_X14_need_3 l dC dI L kd tys f0 s.heap.size g.2.2.2.1 a0_ ma0_ ka0_ 1 kb_1 1 x_994) (cwV 3 hts (gV_ t_2403 t_2405 t_100 t_198 t_2406) rfl rfl rfl (by decide +kernel) ⟨(show 0 + 1 ≤ N + 1 + 493 by omega), (show 8 + (4 + 11) + 0 ≤ 60 * (N + 1) + 28500 by omega)⟩) (pre3V g hK ma0_ ka0_ (by decide) (q := (RX14, TX14, 67)) rfl) rfl hl.1 rfl (lv_room (Nat.le_of_ble_eq_true rfl)) dX14_readStatement_82 (cl_f hck_0) g hK (by decide) (by decide) (fx' := [(14, 8, a0_, .int x_994), (14, 7, a0_, .int x_47), (14, 6, a0_, .int x_1), (14, 2, a0_, .ref q0_), (14, 16, a0_, .int o_), (14, 25, a0_, .int op_), (14, 10, a0_, .int t_), (14, 17, a0_, .int me_), (14, 26, a0_, .int br_)]) rfl (fun xr_996 fr_996 H locs mxr_996 kxr_996 hp hMr_996 g => ?_) (fun fr_996 H locs hp hMr_996 g => ?_)
                  · have hG_997 := isV.frame hMr_996 go_.2.2.2.1 mq0_ kq0_ (by decide) (by decide) hV
                    have hG_998 := FR.frame hMr_996 go_.2.2.2.1 mq0_ kq0_ (by decide) (by decide) FR.refl
                    have hG_999 := cEq.frame hMr_996 go_.2.2.2.1 ma0_ ka0_ (by decide) (by decide) hC_0
                    exact hp.elim
                  · have hG_1000 := isV.frame hMr_996 go_.2.2.2.1 mq0_ kq0_ (by decide) (by decide) hV
                    have hG_1001 := FR.frame hMr_996 go_.2.2.2.1 mq0_ kq0_ (by decide) (by decide) FR.refl
                    have hG_1002 := cEq.frame hMr_996 go_.2.2.2.1 ma0_ ka0_ (by decide) (by decide) hC_0
                    refine lv_aload_n hx hb dX14_readStatement_85 rfl (lv_at hl 1 rfl) ?_
                    refine g_getk (C := RX14) (T := TX14) (N := 67) hx hb hts (mc_ inX14) hown hK g rfl 6 (by decide) rfl (hts _ (List.mem_cons_of_mem _ t_2152)) (fun _ h9 => h9) 2 rfl dX14_readStatement_86 ?_
                    refine lv_iconst (v := 1) hx hb dX14_readStatement_89 (by decide) ?_
                    refine lv_icmp_ne (tgt := 98) hx hb dX14_readStatement_90 (by decide) (fun c_1003 => ?_) (fun c_1003 => ?_)
                    · have fc_1003 := neq_f c_1003
                      refine lv_aload_n hx hb dX14_readStatement_98 rfl (lv_at hl 1 rfl) ?_
                      have hs_1004 := sE_1 g 2 rfl (by have h9_0 := bbr_; unfold bd at h9_0; have h9_1 := bme_; unfold bd at h9_1; have h9_2 := bo_; unfold bd at h9_2; have h9_3 := bop_; unfold bd at h9_3; have h9_4 := bt_; unfold bd at h9_4; have h9_5 := b_46; unfold bd at h9_5; have h9_6 := b_993; unfold bd at h9_6; have h9_7 := bx_994; unfold bd at h9_7; have h8_0 := kb_1; unfold bd at h8_0; have h8_1 := kb_12; unfold bd at h8_1; have h8_2 := kb_13; unfold bd at h8_2; have h8_3 := kb_15; unfold bd at h8_3; have h8_4 := kb_16; unfold bd at h8_4; have h8_5 := kb_17; unfold bd at h8_5; have h8_6 := kb_2; unfold bd at h8_6; omega)
                      have go_ := g
                      refine g_callEv (As := []) (rest := []) ⟨hx, hb, hml, hown, hts⟩ (r_X14_mayBegin_2 l dC dI L kd tys fr_996 H.size g.2.2.2.1 a0_ ma0_ ka0_ q0_ mq0_ kq0_ V_ hG_1000 (g.fcts [3] rfl)) (cwV 0 hts (gV_ t_2558 t_2560 t_135 t_198 t_2561) rfl rfl rfl (by decide +kernel) ⟨(show 2 + 1 ≤ N + 1 + 493 by omega), (show 8 + (1 + 11) + 45 ≤ 60 * (N + 1) + 28500 by omega)⟩) (pre3V g hK ma0_ ka0_ (by decide) (q := (RX14, TX14, 67)) rfl) rfl hl.1 rfl (lv_room (Nat.le_of_ble_eq_true rfl)) dX14_readStatement_99 (cl_f hck_0) g hK (by decide) (by decide) (fx' := [(14, 8, a0_, .int x_994), (14, 7, a0_, .int x_47), (14, 6, a0_, .int x_1), (14, 2, a0_, .ref q0_), (14, 16, a0_, .int o_), (14, 25, a0_, .int op_), (14, 10, a0_, .int t_), (14, 17, a0_, .int me_), (14, 26, a0_, .int br_)]) rfl (fun xr_1005 fr_1005 H locs mxr_1005 kxr_1005 hp hMr_1005 g => ?_) (fun fr_1005 H locs hp hMr_1005 g => ?_)
                      · have hG_1006 := cEq.frame hMr_1005 go_.2.2.2.1 ma0_ ka0_ (by decide) (by decide) hG_1002
                        have hF_1007 := FR.call (mds := []) (mas := []) hG_1001 go_ mq0_ kq0_ rfl hp
                        subst hQ
                        exact leavesX hempty hlocks (fun t ht hW => g_thrZ g hK mxr_1005 kxr_1005 ⟨hF_1007, (by omega)⟩ ht hW) g.2.2.1.2.2
                      · obtain ⟨hx_1008, hx_1009, -⟩ := hp
                        have hG_1010 := cEq.frame hMr_1005 go_.2.2.2.1 ma0_ ka0_ (by decide) (by decide) hG_1002
                        have hF_1011 := FR.call (mds := []) (mas := []) hG_1001 go_ mq0_ kq0_ rfl hx_1009
                        obtain ⟨V_1012, hV_1013, hN_1014⟩ := hx_1008
                        have hsi_1015 := SI.nodes hsi_0 hN_1014.1 (hN_1014.2.1 hsi_0.2.2.1)
                        have hsi_1015n : (V_1012.n 46).toInt = (V_.n 46).toInt := by rw [exN.n46 hN_1014.1]
                        have hN_1014n := hN_1014.2.2
                        refine lv_aload_n hx hb dX14_readStatement_102 rfl (lv_at hl 1 rfl) ?_
                        refine g_getk (C := RX14) (T := TX14) (N := 67) hx hb hts (mc_ inX14) hown hK g rfl 7 (by decide) rfl (hts _ (List.mem_cons_of_mem _ t_2153)) (fun _ h9 => h9) 1 rfl dX14_readStatement_103 ?_
                        refine lv_iconst (v := 1) hx hb dX14_readStatement_106 (by decide) ?_
                        refine lv_icmp_ne (tgt := 115) hx hb dX14_readStatement_107 (by decide) (fun c_1016 => ?_) (fun c_1016 => ?_)
                        · have fc_1016 := neq_f c_1016
                          have b_1017 : bd 2 0 x_47 := neX fc_1016 b_993 kb_1 (by decide)
                          exact bd_no b_1017 (by decide)
                        · have fc_1016 := eq_f c_1016
                          refine lv_aload_n hx hb dX14_readStatement_110 rfl (lv_at hl 1 rfl) ?_
                          have qc__1018 : cF fr_1005 a0_ = _ := hG_1010
                          have qc__1019 : cF fr_1005 a0_ = _ := hG_1010
                          have hs_1020 := sE_1 g 2 rfl (by have h9_0 := bbr_; unfold bd at h9_0; have h9_1 := bme_; unfold bd at h9_1; have h9_2 := bo_; unfold bd at h9_2; have h9_3 := bop_; unfold bd at h9_3; have h9_4 := bt_; unfold bd at h9_4; have h9_5 := b_46; unfold bd at h9_5; have h9_6 := b_993; unfold bd at h9_6; have h9_7 := bx_994; unfold bd at h9_7; have h8_0 := kb_1; unfold bd at h8_0; have h8_1 := kb_12; unfold bd at h8_1; have h8_2 := kb_13; unfold bd at h8_2; have h8_3 := kb_15; unfold bd at h8_3; have h8_4 := kb_16; unfold bd at h8_4; have h8_5 := kb_17; unfold bd at h8_5; have h8_6 := kb_2; unfold bd at h8_6; omega)
                          have go_ := g
                          refine g_callZi (As := []) (rest := []) ⟨hx, hb, hml, hown, hts⟩ (r_X14_readDoing l dC dI L kd tys fr_1005 H.size g.2.2.2.1 adK adV a0_ ma0_ ka0_ q0_ mq0_ kq0_ V_1012 δ_ U_ o_ bo_ op_ bop_ t_ bt_ me_ bme_ br_ bbr_ x_1 (bd_sub b_46 (by decide)) hV_1013 (SI.rf hsi_1015.2.2.1 hsi_1015.2.2.2) (fun s9 h9 => Int.lt_of_lt_of_le (hU s9 h9) hsi_1015.1.2.2.2.2.1) (by rw [hsi_1015.1.2.2.1 0 (by decide) (by decide)]; exact ho) (by rw [hsi_1015.1.2.2.1 27 (by decide) (by decide)]; exact hm27) (by rw [hsi_1015.1.1 18 (by decide) (by decide)]; exact hm18) (by omega) (by omega) (by omega) (K_ - cl_0) (by omega) (g.fcts [3, 4, 5, 6, 7, 8, 2] rfl)) (cwV 0 hts (gV_ t_2550 t_2552 t_133 t_198 t_2553) rfl rfl rfl (by decide +kernel) ⟨(show 487 + 1 ≤ N + 1 + 493 by omega), (show 8 + (4 + 11) + 28408 ≤ 60 * (N + 1) + 28500 by omega)⟩) (pre3VA g hK hAm ma0_ ka0_ (by decide) (q := (RX14, TX14, 67)) rfl) rfl hl.1 rfl (lv_room (Nat.le_of_ble_eq_true rfl)) dX14_readStatement_111 (cl_k (K := K_) (k := K_ - cl_0) (show cl_0 + (K_ - cl_0) ≤ K_ by omega)) g hK (by decide) (by decide) (fx' := [(14, 2, a0_, .ref q0_), (14, 16, a0_, .int o_), (14, 17, a0_, .int me_)]) rfl (fun xr_1021 fr_1021 H locs kr_1021 cr_1021 ecr_1021 mxr_1021 kxr_1021 hp hMr_1021 g => ?_) (fun r_1021 fr_1021 H locs kr_1021 cr_1021 ecr_1021 hp hMr_1021 g => ?_)
                          · have hF_1022 := FR.call (mds := []) (mas := []) hF_1011 go_ mq0_ kq0_ rfl hp.1
                            have hpk := hp.2
                            subst hQ
                            exact leavesX hempty hlocks (fun t ht hW => g_thrZ g hK mxr_1021 kxr_1021 ⟨hF_1022, (by omega)⟩ ht hW) g.2.2.1.2.2
                          · obtain ⟨hx_1023, x_1024, h_1025, hF_1026⟩ := hp
                            obtain ⟨V_1027, D_1028, E_1029, hV_1030, hF_1031, hE_1032, hsi_1033, hP_1034, hn_1035, hs_1036, hk_1037, hc_1038⟩ := rds_use hx_1023 hG_1010
                            have hF_1039 := FR.call (mds := []) (mas := []) hF_1011 go_ mq0_ kq0_ rfl hF_1031
                            have mxE_1029 : E_1029 ≤ 1202 := by have h9 := cF_le g ma0_ ka0_; have h8 : cF _ _ = _ := hE_1032; omega
                            have hsi_1040 := SI.call hsi_1015 hsi_1033
                            have hsi_1040l := hsi_1033.1.2.2.2.2.1
                            have hck_1041 : cr_1021 ≤ K_ := by omega
                            have hi_1042 := isS.base hP_1034 hsi_1015.1
                            have hi_1042a := hP_1034.1
                            have hi_1042b := hP_1034.2.1
                            have b_1043 : bd 0 699 r_1021 := ⟨(by omega), (by omega)⟩
                            have g := g.more hF_1026
                            have h9c : cF fr_1021 a0_ = _ := hE_1032
                            subst hQ
                            exact iretX (v := r_1021) hx hb hr (fun t ht hW => g_retZ g hK ⟨_, rfl, ⟨⟨_, _, hV_1030, hF_1039, hsi_1040, hi_1042, (by omega), (by omega), (by omega), (by omega)⟩, x_1024, h_1025, (g.fcts [0, 1, 2] rfl)⟩⟩ ht hW) g.2.2.1.2.2 dX14_readStatement_114 hlocks
                    · have fc_1003 := eq_f c_1003
                      exact absurd fc_1003 fc_2
