set_option maxHeartbeats 4000000 in
set_option maxRecDepth 100000 in
theorem r_X14_readPlace (N : Nat) (ih : RecR N) (l : Launch) (dC : Nat → ClassId) (dI : Nat → Nat → Nat) (L : List Nat) (kd : Nat → Nat) (tys : List (ClassId × FieldType)) (f0 : Nat → va_E) (sz : Nat) (hWT : WT L kd tys f0) (adK adV : Nat → Nat) (a0_ : Nat) (ma0_ : a0_ ∈ L) (ka0_ : kd a0_ = 14) (x1_ : Int32) (x2_ : Int32) (x3_ : Int32) (bx3_ : bd 0 1 x3_) (q0_ : Nat) (mq0_ : q0_ ∈ L) (kq0_ : kd q0_ = 12) (V_ : PV) (o_ : Int32) (bo_ : bd 0 7 o_) (op_ : Int32) (bop_ : bd 0 40 op_) (t_ : Int32) (bt_ : bd 0 1201 t_) (hV : isV f0 q0_ V_) (hwf : wfN V_ (V_.n 57).toInt) (ho : (o_.toNatClampNeg : Int) < (V_.n 0).toInt) (hnn : (V_.n 57).toInt + 1 ≤ cF f0 a0_) (hm_ : Int) (hhm : 12 ≤ hm_ ∧ hm_ ≤ 13 ∧ (x3_.toInt = 0 → hm_ = 13)) (hv : varOK V_ x1_ o_.toNatClampNeg) (K_ : Nat) (hK_ : 1204 ≤ 2 * (K_ : Int) + cF f0 a0_) (hN : 11 * (40 - op_.toInt) + 1 ≤ ((N + 1 : Nat) : Int)) (hfx : Fs L kd f0 [(14, 2, a0_, .ref q0_), (14, 16, a0_, .int o_), (14, 25, a0_, .int op_), (14, 10, a0_, .int t_)]) : MetX l yX14_readPlace (.code yX14_readPlace cX14_readPlace 8 (some .int) :: lw_g) ({ frames := (N + 1) + 24, cells := K_, slots := 3 * K_, locals := 60 * (N + 1) + 700 }) (va_Pc [.ref a0_, .int x1_, .int x2_, .int x3_] (P3A (dC, dI) L tys f0 sz adK adV)) (q3Z (dC, dI) L kd tys [(12, 57), (12, 58), (14, 6), (14, 7), (14, 8), (14, 9), (14, 10), (14, 11), (14, 12), (14, 13), (14, 14), (14, 15), (14, 25)] [180, 201, 202, 203, 204, 205, 206, 207, 208, 209, 210] f0 sz (pXi (fun (r : Int32) (f : Nat → va_E) (k : Nat) => (rdP L kd f0 a0_ q0_ V_ o_ (hm_) 1 r f k (fun v => v.toInt = 2)) ∧ ∃ z1_ : Int32, bd 0 1201 z1_ ∧ Fs L kd f [(14, 25, a0_, .int op_), (14, 10, a0_, .int z1_)])) (fun (f : Nat → va_E) (k : Nat) => FR L kd f0 f q0_ ∧ 2 * (k : Int) + cF f0 a0_ ≤ 1203)) (pA L sz) := by
  refine MetX.ofW (cc := cX14_readPlace) (maxL := 8) (ret := (some .int)) (by decide) rfl ?_
  intro p e s m args below meth c s₁ B hml hempty hv
  obtain ⟨rfl, ⟨hsz, hP, hK, hD0⟩, hAm⟩ := hv
  have hx := B.exec
  have hb := B.bytes
  have hr := B.returns
  have hts := atoms_spec (ws := (.code yX14_readPlace cX14_readPlace 8 (some .int) :: lw_g)) B.pre
  have hown : s.vm.findClass RX14 = some m.cls := findClass_of_methodNamed B.named
  have hlocks := B.notSynchronized
  subst hsz
  have g : G3 (dC, dI) L kd tys s f0 [(12, 57), (12, 58), (14, 6), (14, 7), (14, 8), (14, 9), (14, 10), (14, 11), (14, 12), (14, 13), (14, 14), (14, 15), (14, 25)] [180, 201, 202, 203, 204, 205, 206, 207, 208, 209, 210] f0 s.heap [] [(14, 2, a0_, .ref q0_), (14, 16, a0_, .int o_), (14, 25, a0_, .int op_), (14, 10, a0_, .int t_)] := G3.start hP hD0 hWT hfx
  have hl := lv_entry ([.ref a0_, .int x1_, .int x2_, .int x3_]) (n := 8) (Nat.le_of_ble_eq_true rfl)
  rw [lg_entry_eq]
  generalize (lg_sl ([.ref a0_, .int x1_, .int x2_, .int x3_]) ++ List.replicate (8 - (lg_sl ([.ref a0_, .int x1_, .int x2_, .int x3_])).length) Slot.unset).toArray = ls at hl ⊢
  have hl : lv_has ls 8 [(0, .ref a0_), (1, .int x1_), (2, .int x2_), (3, .int x3_)] := hl
  refine W_q (fun Q hQ => ?_)
  refine W_c0 (fun cl_0 hc_0 => ?_)
  have hck_0 : cl_0 ≤ K_ := by omega
  have hC_0 : cEq f0 a0_ (cF f0 a0_) := rfl
  have hm_0 : cF f0 a0_ ≤ 1202 := cF_le g ma0_ ka0_
  have hm_1 : -1 ≤ cF f0 a0_ := cF_ge g ma0_ ka0_
  have hv9 : 0 ≤ x1_.toInt ∧ (x1_.toInt ≤ 9 ∨ 1000 ≤ x1_.toInt) := by unfold varOK at hv; omega
  refine lv_iload_n hx hb dX14_readPlace_0 rfl (lv_at hl 1 rfl) ?_
  refine lv_sipush (v := 1000) hx hb dX14_readPlace_1 (by decide) ?_
  have kb_1000 : bd 1000 1000 (1000 : Int32) := ⟨by decide, by decide⟩
  refine lv_icmp_ge (tgt := 31) hx hb dX14_readPlace_4 (by decide) (fun c_1 => ?_) (fun c_1 => ?_)
  · have fc_1 := le_f c_1
    have b_2 : bd 1000 2147483647 x1_ := leR fc_1 kb_1000 (bdT x1_) (by decide)
    refine lv_iconst (v := 0) hx hb dX14_readPlace_31 (by decide) ?_
    refine lv_istore (lv' := [(4, .int 0), (0, .ref a0_), (1, .int x1_), (2, .int x2_), (3, .int x3_)]) hx hb dX14_readPlace_32 hl (by decide) rfl (fun ls hl => ?_)
    refine lv_aload_n hx hb dX14_readPlace_34 rfl (lv_at hl 1 rfl) ?_
    refine lv_iload hx hb dX14_readPlace_35 (lv_at hl 0 rfl) ?_
    refine lv_aload_n hx hb dX14_readPlace_37 rfl (lv_at hl 1 rfl) ?_
    refine lv_bipush (v := 91) hx hb dX14_readPlace_38 (by decide) ?_
    have go_ := g
    refine g_calli (va_runV (As := [.int 91]) (rest := [.int 0, .ref a0_]) ⟨hx, hb, hml, hown, hts⟩ (r_X14_isSign l dC dI L kd tys f0 s.heap.size g.2.2.2.1 a0_ ma0_ ka0_ 91) (cwV 1 hts (gV_ t_2435 t_2437 t_108 t_198 t_2438) rfl rfl rfl (by decide +kernel) ⟨(show 0 + 1 ≤ N + 1 + 24 by omega), (show 8 + (2 + 11) + 0 ≤ 60 * (N + 1) + 700 by omega)⟩) (pre3V g hK ma0_ ka0_ (by decide) (q := (RX14, TX14, 67)) rfl) rfl rfl hl.1 rfl (lv_room (Nat.le_of_ble_eq_true rfl)) dX14_readPlace_40 (cl_f hck_0)) g hK (by decide) (by decide) (fx' := [(14, 2, a0_, .ref q0_), (14, 16, a0_, .int o_), (14, 25, a0_, .int op_), (14, 10, a0_, .int t_)]) rfl (fun r_3 fr_3 H locs hp hMr_3 g => ?_)
    rcases hp with ⟨h_4, -⟩ | ⟨h_5, x_6, h_7, hF_8⟩
    · have hG_9 := isV.frame hMr_3 go_.2.2.2.1 mq0_ kq0_ (by decide) (by decide) hV
      have hG_10 := FR.frame hMr_3 go_.2.2.2.1 mq0_ kq0_ (by decide) (by decide) FR.refl
      have hG_11 := cEq.frame hMr_3 go_.2.2.2.1 ma0_ ka0_ (by decide) (by decide) hC_0
      obtain rfl : r_3 = 0 := h_4
      refine lv_icmp_ne (tgt := 50) hx hb dX14_readPlace_43 (by decide) (fun c_ => absurd c_ (by decide)) (fun c_ => ?_)
      refine lv_iconst (v := 1) hx hb dX14_readPlace_46 (by decide) ?_
      refine lv_goto (tgt := 51) hx hb dX14_readPlace_47 (by decide) ?_
      refine lv_iconst (v := 5) hx hb dX14_readPlace_51 (by decide) ?_
      refine lv_iload_n hx hb dX14_readPlace_52 rfl (lv_at hl 3 rfl) ?_
      have kb_1 : bd 1 1 (1 : Int32) := ⟨by decide, by decide⟩
      have go_ := g
      refine g_callEv (As := [.int 1, .int 5, .int x2_]) (rest := []) ⟨hx, hb, hml, hown, hts⟩ (r_X14_need_3 l dC dI L kd tys fr_3 H.size g.2.2.2.1 a0_ ma0_ ka0_ 1 kb_1 5 x2_) (cwV 3 hts (gV_ t_2403 t_2405 t_100 t_198 t_2406) rfl rfl rfl (by decide +kernel) ⟨(show 0 + 1 ≤ N + 1 + 24 by omega), (show 8 + (4 + 11) + 0 ≤ 60 * (N + 1) + 700 by omega)⟩) (pre3V g hK ma0_ ka0_ (by decide) (q := (RX14, TX14, 67)) rfl) rfl hl.1 rfl (lv_room (Nat.le_of_ble_eq_true rfl)) dX14_readPlace_53 (cl_f hck_0) g hK (by decide) (by decide) (fx' := [(14, 2, a0_, .ref q0_), (14, 16, a0_, .int o_), (14, 25, a0_, .int op_), (14, 10, a0_, .int t_)]) rfl (fun xr_12 fr_12 H locs mxr_12 kxr_12 hp hMr_12 g => ?_) (fun fr_12 H locs hp hMr_12 g => ?_)
      · have hG_13 := isV.frame hMr_12 go_.2.2.2.1 mq0_ kq0_ (by decide) (by decide) hG_9
        have hG_14 := FR.frame hMr_12 go_.2.2.2.1 mq0_ kq0_ (by decide) (by decide) hG_10
        have hG_15 := cEq.frame hMr_12 go_.2.2.2.1 ma0_ ka0_ (by decide) (by decide) hG_11
        exact hp.elim
      · have hG_16 := isV.frame hMr_12 go_.2.2.2.1 mq0_ kq0_ (by decide) (by decide) hG_9
        have hG_17 := FR.frame hMr_12 go_.2.2.2.1 mq0_ kq0_ (by decide) (by decide) hG_10
        have hG_18 := cEq.frame hMr_12 go_.2.2.2.1 ma0_ ka0_ (by decide) (by decide) hG_11
        refine lv_iconst (v := (-1)) hx hb dX14_readPlace_56 (by decide) ?_
        refine lv_istore (lv' := [(5, .int (-1)), (4, .int 0), (0, .ref a0_), (1, .int x1_), (2, .int x2_), (3, .int x3_)]) hx hb dX14_readPlace_57 hl (by decide) rfl (fun ls hl => ?_)
        refine lv_iload hx hb dX14_readPlace_59 (lv_at hl 1 rfl) ?_
        refine lv_if_eq (tgt := 83) hx hb dX14_readPlace_61 (by decide) (fun c_ => ?_) (fun c_ => absurd (by decide) c_)
        refine lv_iload hx hb dX14_readPlace_83 (lv_at hl 0 rfl) ?_
        refine lv_iconst (v := (-1)) hx hb dX14_readPlace_85 (by decide) ?_
        refine lv_icmp_ne (tgt := 93) hx hb dX14_readPlace_86 (by decide) (fun c_ => absurd c_ (by decide)) (fun c_ => ?_)
        refine lv_iconst (v := 1) hx hb dX14_readPlace_89 (by decide) ?_
        refine lv_goto (tgt := 105) hx hb dX14_readPlace_90 (by decide) ?_
        refine lv_istore (lv' := [(6, .int 1), (5, .int (-1)), (4, .int 0), (0, .ref a0_), (1, .int x1_), (2, .int x2_), (3, .int x3_)]) hx hb dX14_readPlace_105 hl (by decide) rfl (fun ls hl => ?_)
        refine lv_aload_n hx hb dX14_readPlace_107 rfl (lv_at hl 3 rfl) ?_
        refine lv_iload_n hx hb dX14_readPlace_108 rfl (lv_at hl 6 rfl) ?_
        have kb_0 : bd 0 0 (0 : Int32) := ⟨by decide, by decide⟩
        refine lv_if_eq (tgt := 119) hx hb dX14_readPlace_109 (by decide) (fun c_19 => ?_) (fun c_19 => ?_)
        · have fc_19 := eq_f c_19
          have b_20 : bd 0 0 x3_ := eqX fc_19 bx3_ kb_0 (by decide)
          refine lv_iconst (v := 1) hx hb dX14_readPlace_119 (by decide) ?_
          refine lv_goto (tgt := 124) hx hb dX14_readPlace_120 (by decide) ?_
          refine lv_bipush (v := 7) hx hb dX14_readPlace_124 (by decide) ?_
          refine lv_iload_n hx hb dX14_readPlace_126 rfl (lv_at hl 5 rfl) ?_
          have go_ := g
          refine g_callEv (As := [.int 1, .int 7, .int x2_]) (rest := []) ⟨hx, hb, hml, hown, hts⟩ (r_X14_need_3 l dC dI L kd tys fr_12 H.size g.2.2.2.1 a0_ ma0_ ka0_ 1 kb_1 7 x2_) (cwV 3 hts (gV_ t_2403 t_2405 t_100 t_198 t_2406) rfl rfl rfl (by decide +kernel) ⟨(show 0 + 1 ≤ N + 1 + 24 by omega), (show 8 + (4 + 11) + 0 ≤ 60 * (N + 1) + 700 by omega)⟩) (pre3V g hK ma0_ ka0_ (by decide) (q := (RX14, TX14, 67)) rfl) rfl hl.1 rfl (lv_room (Nat.le_of_ble_eq_true rfl)) dX14_readPlace_127 (cl_f hck_0) g hK (by decide) (by decide) (fx' := [(14, 2, a0_, .ref q0_), (14, 16, a0_, .int o_), (14, 25, a0_, .int op_), (14, 10, a0_, .int t_)]) rfl (fun xr_21 fr_21 H locs mxr_21 kxr_21 hp hMr_21 g => ?_) (fun fr_21 H locs hp hMr_21 g => ?_)
          · have hG_22 := isV.frame hMr_21 go_.2.2.2.1 mq0_ kq0_ (by decide) (by decide) hG_16
            have hG_23 := FR.frame hMr_21 go_.2.2.2.1 mq0_ kq0_ (by decide) (by decide) hG_17
            have hG_24 := cEq.frame hMr_21 go_.2.2.2.1 ma0_ ka0_ (by decide) (by decide) hG_18
            exact hp.elim
          · have hG_25 := isV.frame hMr_21 go_.2.2.2.1 mq0_ kq0_ (by decide) (by decide) hG_16
            have hG_26 := FR.frame hMr_21 go_.2.2.2.1 mq0_ kq0_ (by decide) (by decide) hG_17
            have hG_27 := cEq.frame hMr_21 go_.2.2.2.1 ma0_ ka0_ (by decide) (by decide) hG_18
            refine lv_aload_n hx hb dX14_readPlace_130 rfl (lv_at hl 3 rfl) ?_
            refine lv_iconst (v := 2) hx hb dX14_readPlace_131 (by decide) ?_
            refine lv_iload hx hb dX14_readPlace_132 (lv_at hl 1 rfl) ?_
            refine lv_iconst (v := (-1)) hx hb dX14_readPlace_134 (by decide) ?_
            refine lv_iload hx hb dX14_readPlace_135 (lv_at hl 0 rfl) ?_
            have hnb : (V_.n 57).toInt ≤ 2499 := by omega
            have go_ := g
            refine g_calli (va_runV (As := [.int 2, .int (-1), .int (-1), .int 1]) (rest := []) ⟨hx, hb, hml, hown, hts⟩ (r_X14_node l dC dI L kd tys fr_21 H.size g.2.2.2.1 a0_ ma0_ ka0_ 2 (-1) (-1) 1 q0_ mq0_ kq0_ o_ bo_ V_ hG_25 hnb (g.fcts [0, 1] rfl)) (cwV 4 hts (gV_ t_2480 t_2482 t_117 t_198 t_2483) rfl rfl rfl (by decide +kernel) ⟨(show 0 + 1 ≤ N + 1 + 24 by omega), (show 8 + (6 + 11) + 0 ≤ 60 * (N + 1) + 700 by omega)⟩) (pre3V g hK ma0_ ka0_ (by decide) (q := (RX14, TX14, 67)) rfl) rfl rfl hl.1 rfl (lv_room (Nat.le_of_ble_eq_true rfl)) dX14_readPlace_137 (cl_f hck_0)) g hK (by decide) (by decide) (fx' := [(14, 2, a0_, .ref q0_), (14, 16, a0_, .int o_), (14, 25, a0_, .int op_), (14, 10, a0_, .int t_)]) rfl (fun r_28 fr_28 H locs hp hMr_28 g => ?_)
            obtain ⟨hx_29, hx_30, h_31, x_32, h_33, hF_34⟩ := hp
            have hG_35 := cEq.frame hMr_28 go_.2.2.2.1 ma0_ ka0_ (by decide) (by decide) hG_27
            have hF_36 := FR.call (mds := []) (mas := []) hG_26 go_ mq0_ kq0_ rfl hx_30
            obtain ⟨V_37, hV_38, hN_39⟩ := hx_29
            have g := g.more hF_34
            refine lv_istore (lv' := [(7, .int r_28), (6, .int 1), (5, .int (-1)), (4, .int 0), (0, .ref a0_), (1, .int x1_), (2, .int x2_), (3, .int x3_)]) hx hb dX14_readPlace_140 hl (by decide) rfl (fun ls hl => ?_)
            refine lv_aload_n hx hb dX14_readPlace_142 rfl (lv_at hl 4 rfl) ?_
            refine g_getk (C := RX14) (T := TX14) (N := 67) hx hb hts (mc_ inX14) hown hK g rfl 2 (by decide) rfl (hts _ (List.mem_cons_of_mem _ t_2148)) (fun _ h9 => h9) 1 rfl dX14_readPlace_143 ?_
            refine g_getr (K := 204) (C := RX12) (T := TX12) (N := 60) hx hb hts (mc_ inX12) hown hK g mq0_ kq0_ (by decide) rfl 50 (by decide) rfl (hts _ (List.mem_cons_of_mem _ t_2004)) (fun _ h9 => h9) rfl dX14_readPlace_146 (fun a_40 ma_40 ka_40 g => ?_)
            refine lv_iload hx hb dX14_readPlace_149 (lv_at hl 0 rfl) ?_
            refine lv_iload_n hx hb dX14_readPlace_151 rfl (lv_at hl 5 rfl) ?_
            have gp_41 := g
            have go_ := g
            refine g_iastX hx hb hK g ma_40 ka_40 (by decide) rfl (in_bd h_31 (by decide)) (bd_sub b_2 (by decide)) (by decide) dX14_readPlace_152 (fun f H locs hM_42 u_44 g => ?_)
            have hG_43 := cEq.frame hM_42 go_.2.2.2.1 ma0_ ka0_ (by decide) (by decide) hG_35
            have hV_45 := isV.ui hV_38 gp_41 0 rfl mq0_ kq0_ rfl u_44
            have hF_46 := FR.arr hF_36 gp_41 0 rfl mq0_ kq0_ rfl rfl u_44.1
            have hN_47 := NN.s50 (v := x1_) hN_39 h_31.1
            refine lv_iload hx hb dX14_readPlace_153 (lv_at hl 0 rfl) ?_
            have hf_48 : fin V_ (V_37.ui 50 r_28.toNatClampNeg x1_) r_28 hm_ o_ := nd_place hN_47 h_31.1 hwf ⟨(by have h9_0 := bo_; unfold bd at h9_0; have h9_1 := bop_; unfold bd at h9_1; have h9_2 := h_31; unfold bd at h9_2; have h9_3 := bt_; unfold bd at h9_3; have h9_4 := b_2; unfold bd at h9_4; have h9_5 := b_20; unfold bd at h9_5; have h9_6 := h_33; unfold bd at h9_6; have h8_0 := kb_0; unfold bd at h8_0; have h8_1 := kb_1; unfold bd at h8_1; have h8_2 := kb_1000; unfold bd at h8_2; omega), (by have h9_0 := bo_; unfold bd at h9_0; have h9_1 := bop_; unfold bd at h9_1; have h9_2 := h_31; unfold bd at h9_2; have h9_3 := bt_; unfold bd at h9_3; have h9_4 := b_2; unfold bd at h9_4; have h9_5 := b_20; unfold bd at h9_5; have h9_6 := h_33; unfold bd at h9_6; have h8_0 := kb_0; unfold bd at h8_0; have h8_1 := kb_1; unfold bd at h8_1; have h8_2 := kb_1000; unfold bd at h8_2; omega)⟩ (by have h9_0 := bo_; unfold bd at h9_0; have h9_1 := bop_; unfold bd at h9_1; have h9_2 := h_31; unfold bd at h9_2; have h9_3 := bt_; unfold bd at h9_3; have h9_4 := b_2; unfold bd at h9_4; have h9_5 := b_20; unfold bd at h9_5; have h9_6 := h_33; unfold bd at h9_6; have h8_0 := kb_0; unfold bd at h8_0; have h8_1 := kb_1; unfold bd at h8_1; have h8_2 := kb_1000; unfold bd at h8_2; omega) ho (by decide) hv (Or.inl (by decide))
            have ho_52 : ((V_37.ui 50 r_28.toNatClampNeg x1_).i 47 r_28.toNatClampNeg).toInt = 2 := (congrArg Int32.toInt (hN_47).2.2.2.1).trans (by decide)
            obtain ⟨V_49, hV_50, hf_51, ho_52⟩ : ∃ V1 : PV, isV f q0_ V1 ∧ fin V_ V1 r_28 hm_ o_ ∧ (V1.i 47 r_28.toNatClampNeg).toInt = 2 := ⟨_, hV_45, hf_48, ho_52⟩
            have hf_51n := hf_51.2.2.2
            have hx_53 := exN.tr exN.rf hf_51.1
            have hv_54 := exN.var hf_51.1 hv
            have h9c : cF f a0_ = _ := hG_43
            subst hQ
            exact iretX (v := r_28) hx hb hr (fun t ht hW => g_retZ g hK ⟨_, rfl, ⟨⟨_, hV_50, hF_46, hx_53, hf_51.2.1, hf_51.2.2.1, ho_52, (by omega), (by omega), (by omega)⟩, t_, bt_, (g.fcts [4, 5] rfl)⟩⟩ ht hW) g.2.2.1.2.2 dX14_readPlace_155 hlocks
        · have fc_19 := neq_f c_19
          have b_55 : bd 1 1 x3_ := neX fc_19 bx3_ kb_0 (by decide)
          refine lv_iload hx hb dX14_readPlace_112 (lv_at hl 0 rfl) ?_
          refine lv_bipush (v := 12) hx hb dX14_readPlace_114 (by decide) ?_
          refine lv_icmp_gt (tgt := 123) hx hb dX14_readPlace_116 (by decide) (fun c_ => absurd c_ (by decide)) (fun c_ => ?_)
          refine lv_iconst (v := 1) hx hb dX14_readPlace_119 (by decide) ?_
          refine lv_goto (tgt := 124) hx hb dX14_readPlace_120 (by decide) ?_
          refine lv_bipush (v := 7) hx hb dX14_readPlace_124 (by decide) ?_
          refine lv_iload_n hx hb dX14_readPlace_126 rfl (lv_at hl 5 rfl) ?_
          have go_ := g
          refine g_callEv (As := [.int 1, .int 7, .int x2_]) (rest := []) ⟨hx, hb, hml, hown, hts⟩ (r_X14_need_3 l dC dI L kd tys fr_12 H.size g.2.2.2.1 a0_ ma0_ ka0_ 1 kb_1 7 x2_) (cwV 3 hts (gV_ t_2403 t_2405 t_100 t_198 t_2406) rfl rfl rfl (by decide +kernel) ⟨(show 0 + 1 ≤ N + 1 + 24 by omega), (show 8 + (4 + 11) + 0 ≤ 60 * (N + 1) + 700 by omega)⟩) (pre3V g hK ma0_ ka0_ (by decide) (q := (RX14, TX14, 67)) rfl) rfl hl.1 rfl (lv_room (Nat.le_of_ble_eq_true rfl)) dX14_readPlace_127 (cl_f hck_0) g hK (by decide) (by decide) (fx' := [(14, 2, a0_, .ref q0_), (14, 16, a0_, .int o_), (14, 25, a0_, .int op_), (14, 10, a0_, .int t_)]) rfl (fun xr_56 fr_56 H locs mxr_56 kxr_56 hp hMr_56 g => ?_) (fun fr_56 H locs hp hMr_56 g => ?_)
          · have hG_57 := isV.frame hMr_56 go_.2.2.2.1 mq0_ kq0_ (by decide) (by decide) hG_16
            have hG_58 := FR.frame hMr_56 go_.2.2.2.1 mq0_ kq0_ (by decide) (by decide) hG_17
            have hG_59 := cEq.frame hMr_56 go_.2.2.2.1 ma0_ ka0_ (by decide) (by decide) hG_18
            exact hp.elim
          · have hG_60 := isV.frame hMr_56 go_.2.2.2.1 mq0_ kq0_ (by decide) (by decide) hG_16
            have hG_61 := FR.frame hMr_56 go_.2.2.2.1 mq0_ kq0_ (by decide) (by decide) hG_17
            have hG_62 := cEq.frame hMr_56 go_.2.2.2.1 ma0_ ka0_ (by decide) (by decide) hG_18
            refine lv_aload_n hx hb dX14_readPlace_130 rfl (lv_at hl 3 rfl) ?_
            refine lv_iconst (v := 2) hx hb dX14_readPlace_131 (by decide) ?_
            refine lv_iload hx hb dX14_readPlace_132 (lv_at hl 1 rfl) ?_
            refine lv_iconst (v := (-1)) hx hb dX14_readPlace_134 (by decide) ?_
            refine lv_iload hx hb dX14_readPlace_135 (lv_at hl 0 rfl) ?_
            have hnb : (V_.n 57).toInt ≤ 2499 := by omega
            have go_ := g
            refine g_calli (va_runV (As := [.int 2, .int (-1), .int (-1), .int 1]) (rest := []) ⟨hx, hb, hml, hown, hts⟩ (r_X14_node l dC dI L kd tys fr_56 H.size g.2.2.2.1 a0_ ma0_ ka0_ 2 (-1) (-1) 1 q0_ mq0_ kq0_ o_ bo_ V_ hG_60 hnb (g.fcts [0, 1] rfl)) (cwV 4 hts (gV_ t_2480 t_2482 t_117 t_198 t_2483) rfl rfl rfl (by decide +kernel) ⟨(show 0 + 1 ≤ N + 1 + 24 by omega), (show 8 + (6 + 11) + 0 ≤ 60 * (N + 1) + 700 by omega)⟩) (pre3V g hK ma0_ ka0_ (by decide) (q := (RX14, TX14, 67)) rfl) rfl rfl hl.1 rfl (lv_room (Nat.le_of_ble_eq_true rfl)) dX14_readPlace_137 (cl_f hck_0)) g hK (by decide) (by decide) (fx' := [(14, 2, a0_, .ref q0_), (14, 16, a0_, .int o_), (14, 25, a0_, .int op_), (14, 10, a0_, .int t_)]) rfl (fun r_63 fr_63 H locs hp hMr_63 g => ?_)
            obtain ⟨hx_64, hx_65, h_66, x_67, h_68, hF_69⟩ := hp
            have hG_70 := cEq.frame hMr_63 go_.2.2.2.1 ma0_ ka0_ (by decide) (by decide) hG_62
            have hF_71 := FR.call (mds := []) (mas := []) hG_61 go_ mq0_ kq0_ rfl hx_65
            obtain ⟨V_72, hV_73, hN_74⟩ := hx_64
            have g := g.more hF_69
            refine lv_istore (lv' := [(7, .int r_63), (6, .int 1), (5, .int (-1)), (4, .int 0), (0, .ref a0_), (1, .int x1_), (2, .int x2_), (3, .int x3_)]) hx hb dX14_readPlace_140 hl (by decide) rfl (fun ls hl => ?_)
            refine lv_aload_n hx hb dX14_readPlace_142 rfl (lv_at hl 4 rfl) ?_
            refine g_getk (C := RX14) (T := TX14) (N := 67) hx hb hts (mc_ inX14) hown hK g rfl 2 (by decide) rfl (hts _ (List.mem_cons_of_mem _ t_2148)) (fun _ h9 => h9) 1 rfl dX14_readPlace_143 ?_
            refine g_getr (K := 204) (C := RX12) (T := TX12) (N := 60) hx hb hts (mc_ inX12) hown hK g mq0_ kq0_ (by decide) rfl 50 (by decide) rfl (hts _ (List.mem_cons_of_mem _ t_2004)) (fun _ h9 => h9) rfl dX14_readPlace_146 (fun a_75 ma_75 ka_75 g => ?_)
            refine lv_iload hx hb dX14_readPlace_149 (lv_at hl 0 rfl) ?_
            refine lv_iload_n hx hb dX14_readPlace_151 rfl (lv_at hl 5 rfl) ?_
            have gp_76 := g
            have go_ := g
            refine g_iastX hx hb hK g ma_75 ka_75 (by decide) rfl (in_bd h_66 (by decide)) (bd_sub b_2 (by decide)) (by decide) dX14_readPlace_152 (fun f H locs hM_77 u_79 g => ?_)
            have hG_78 := cEq.frame hM_77 go_.2.2.2.1 ma0_ ka0_ (by decide) (by decide) hG_70
            have hV_80 := isV.ui hV_73 gp_76 0 rfl mq0_ kq0_ rfl u_79
            have hF_81 := FR.arr hF_71 gp_76 0 rfl mq0_ kq0_ rfl rfl u_79.1
            have hN_82 := NN.s50 (v := x1_) hN_74 h_66.1
            refine lv_iload hx hb dX14_readPlace_153 (lv_at hl 0 rfl) ?_
            have hf_83 : fin V_ (V_72.ui 50 r_63.toNatClampNeg x1_) r_63 hm_ o_ := nd_place hN_82 h_66.1 hwf ⟨(by have h9_0 := bo_; unfold bd at h9_0; have h9_1 := bop_; unfold bd at h9_1; have h9_2 := h_66; unfold bd at h9_2; have h9_3 := bt_; unfold bd at h9_3; have h9_4 := b_2; unfold bd at h9_4; have h9_5 := b_55; unfold bd at h9_5; have h9_6 := h_68; unfold bd at h9_6; have h8_0 := kb_0; unfold bd at h8_0; have h8_1 := kb_1; unfold bd at h8_1; have h8_2 := kb_1000; unfold bd at h8_2; omega), (by have h9_0 := bo_; unfold bd at h9_0; have h9_1 := bop_; unfold bd at h9_1; have h9_2 := h_66; unfold bd at h9_2; have h9_3 := bt_; unfold bd at h9_3; have h9_4 := b_2; unfold bd at h9_4; have h9_5 := b_55; unfold bd at h9_5; have h9_6 := h_68; unfold bd at h9_6; have h8_0 := kb_0; unfold bd at h8_0; have h8_1 := kb_1; unfold bd at h8_1; have h8_2 := kb_1000; unfold bd at h8_2; omega)⟩ (by have h9_0 := bo_; unfold bd at h9_0; have h9_1 := bop_; unfold bd at h9_1; have h9_2 := h_66; unfold bd at h9_2; have h9_3 := bt_; unfold bd at h9_3; have h9_4 := b_2; unfold bd at h9_4; have h9_5 := b_55; unfold bd at h9_5; have h9_6 := h_68; unfold bd at h9_6; have h8_0 := kb_0; unfold bd at h8_0; have h8_1 := kb_1; unfold bd at h8_1; have h8_2 := kb_1000; unfold bd at h8_2; omega) ho (by decide) hv (Or.inl (by decide))
            have ho_87 : ((V_72.ui 50 r_63.toNatClampNeg x1_).i 47 r_63.toNatClampNeg).toInt = 2 := (congrArg Int32.toInt (hN_82).2.2.2.1).trans (by decide)
            obtain ⟨V_84, hV_85, hf_86, ho_87⟩ : ∃ V1 : PV, isV f q0_ V1 ∧ fin V_ V1 r_63 hm_ o_ ∧ (V1.i 47 r_63.toNatClampNeg).toInt = 2 := ⟨_, hV_80, hf_83, ho_87⟩
            have hf_86n := hf_86.2.2.2
            have hx_88 := exN.tr exN.rf hf_86.1
            have hv_89 := exN.var hf_86.1 hv
            have h9c : cF f a0_ = _ := hG_78
            subst hQ
            exact iretX (v := r_63) hx hb hr (fun t ht hW => g_retZ g hK ⟨_, rfl, ⟨⟨_, hV_85, hF_81, hx_88, hf_86.2.1, hf_86.2.2.1, ho_87, (by omega), (by omega), (by omega)⟩, t_, bt_, (g.fcts [4, 5] rfl)⟩⟩ ht hW) g.2.2.1.2.2 dX14_readPlace_155 hlocks
    · have hG_90 := isV.frame hMr_3 go_.2.2.2.1 mq0_ kq0_ (by decide) (by decide) hV
      have hG_91 := FR.frame hMr_3 go_.2.2.2.1 mq0_ kq0_ (by decide) (by decide) FR.refl
      have hG_92 := cEq.frame hMr_3 go_.2.2.2.1 ma0_ ka0_ (by decide) (by decide) hC_0
      obtain rfl : r_3 = 1 := h_5
      have g := g.more hF_8
      refine lv_icmp_ne (tgt := 50) hx hb dX14_readPlace_43 (by decide) (fun c_ => ?_) (fun c_ => absurd c_ (by decide))
      refine lv_iconst (v := 0) hx hb dX14_readPlace_50 (by decide) ?_
      refine lv_iconst (v := 5) hx hb dX14_readPlace_51 (by decide) ?_
      refine lv_iload_n hx hb dX14_readPlace_52 rfl (lv_at hl 3 rfl) ?_
      have hs_93 := sE_1 g 0 rfl (by have h9_0 := bo_; unfold bd at h9_0; have h9_1 := bop_; unfold bd at h9_1; have h9_2 := bt_; unfold bd at h9_2; have h9_3 := b_2; unfold bd at h9_3; have h9_4 := bx3_; unfold bd at h9_4; have h9_5 := h_7; unfold bd at h9_5; have h8_0 := kb_1000; unfold bd at h8_0; omega)
      have kb_0 : bd 0 0 (0 : Int32) := ⟨by decide, by decide⟩
      have go_ := g
      refine g_callEv (As := [.int 0, .int 5, .int x2_]) (rest := []) ⟨hx, hb, hml, hown, hts⟩ (r_X14_need_2 l dC dI L kd tys fr_3 H.size g.2.2.2.1 a0_ ma0_ ka0_ 0 kb_0 5 x2_) (cwV 3 hts (gV_ t_2403 t_2405 t_100 t_198 t_2406) rfl rfl rfl (by decide +kernel) ⟨(show 1 + 1 ≤ N + 1 + 24 by omega), (show 8 + (4 + 11) + 22 ≤ 60 * (N + 1) + 700 by omega)⟩) (pre3V g hK ma0_ ka0_ (by decide) (q := (RX14, TX14, 67)) rfl) rfl hl.1 rfl (lv_room (Nat.le_of_ble_eq_true rfl)) dX14_readPlace_53 (cl_f hck_0) g hK (by decide) (by decide) (fx' := [(14, 6, a0_, .int x_6), (14, 2, a0_, .ref q0_), (14, 16, a0_, .int o_), (14, 25, a0_, .int op_), (14, 10, a0_, .int t_)]) rfl (fun xr_94 fr_94 H locs mxr_94 kxr_94 hp hMr_94 g => ?_) (fun fr_94 H locs hp hMr_94 g => ?_)
      · have hG_95 := isV.frame hMr_94 go_.2.2.2.1 mq0_ kq0_ (by decide) (by decide) hG_90
        have hG_96 := FR.frame hMr_94 go_.2.2.2.1 mq0_ kq0_ (by decide) (by decide) hG_91
        have hG_97 := cEq.frame hMr_94 go_.2.2.2.1 ma0_ ka0_ (by decide) (by decide) hG_92
        subst hQ
        exact leavesX hempty hlocks (fun t ht hW => g_thrZ g hK mxr_94 kxr_94 ⟨hG_96, (by omega)⟩ ht hW) g.2.2.1.2.2
      · exact hp.elim
  · have fc_1 := nle_f c_1
    have b_98 : bd (-2147483648) 999 x1_ := ltL fc_1 (bdT x1_) kb_1000 (by decide)
    refine lv_aload_n hx hb dX14_readPlace_7 rfl (lv_at hl 0 rfl) ?_
    refine g_getk (C := RX14) (T := TX14) (N := 67) hx hb hts (mc_ inX14) hown hK g rfl 2 (by decide) rfl (hts _ (List.mem_cons_of_mem _ t_2148)) (fun _ h9 => h9) 0 rfl dX14_readPlace_8 ?_
    refine g_getr (K := 164) (C := RX12) (T := TX12) (N := 60) hx hb hts (mc_ inX12) hown hK g mq0_ kq0_ (by decide) rfl 8 (by decide) rfl (hts _ (List.mem_cons_of_mem _ t_1922)) (fun _ h9 => h9) rfl dX14_readPlace_11 (fun a_99 ma_99 ka_99 g => ?_)
    refine lv_bipush (v := 10) hx hb dX14_readPlace_14 (by decide) ?_
    refine lv_aload_n hx hb dX14_readPlace_16 rfl (lv_at hl 0 rfl) ?_
    refine g_getk (C := RX14) (T := TX14) (N := 67) hx hb hts (mc_ inX14) hown hK g rfl 16 (by decide) rfl (hts _ (List.mem_cons_of_mem _ t_2162)) (fun _ h9 => h9) 2 rfl dX14_readPlace_17 ?_
    refine lv_imul hx hb dX14_readPlace_20 ?_
    refine lv_topi (fun y_100 ey_100 => ?_)
    have ty_100 := cmul_bd ey_100 (c := 10) (by decide) bo_ (by decide)
    have b_101 : bd 0 70 y_100 := mulc_rg ty_100 bo_ (by decide)
    refine lv_iload_n hx hb dX14_readPlace_21 rfl (lv_at hl 1 rfl) ?_
    refine lv_iadd hx hb dX14_readPlace_22 ?_
    refine lv_topi (fun y_102 ey_102 => ?_)
    have ty_102 := add_bd ey_102 b_101 b_98 (by decide)
    have b_103 : bd (-2147483648) 1069 y_102 := add_rg ty_102 b_101 b_98 (by decide)
    refine g_iald hx hb hK g ma_99 ka_99 (by decide) rfl (in_ok (by have h9_0 := bo_; unfold bd at h9_0; have h9_1 := bop_; unfold bd at h9_1; have h9_2 := bt_; unfold bd at h9_2; have h9_3 := b_98; unfold bd at h9_3; have h9_4 := bx3_; unfold bd at h9_4; have h9_5 := b_101; unfold bd at h9_5; have h9_6 := b_103; unfold bd at h9_6; have h8_0 := kb_1000; unfold bd at h8_0; omega) (by have h9_0 := bo_; unfold bd at h9_0; have h9_1 := bop_; unfold bd at h9_1; have h9_2 := bt_; unfold bd at h9_2; have h9_3 := b_98; unfold bd at h9_3; have h9_4 := bx3_; unfold bd at h9_4; have h9_5 := b_101; unfold bd at h9_5; have h9_6 := b_103; unfold bd at h9_6; have h8_0 := kb_1000; unfold bd at h8_0; omega)) dX14_readPlace_23 (fun x_104 bx_104 cx_104 => ?_)
    have vx_104 : x_104 = V_.i 8 y_102.toNatClampNeg := hV.at g 0 rfl rfl cx_104
    have kb_0 : bd 0 0 (0 : Int32) := ⟨by decide, by decide⟩
    refine lv_if_le (tgt := 31) hx hb dX14_readPlace_24 (by decide) (fun c_105 => ?_) (fun c_105 => ?_)
    · have fc_105 := le_f c_105
      have b_106 : bd 0 0 x_104 := leL fc_105 bx_104 kb_0 (by decide)
      refine lv_iconst (v := 0) hx hb dX14_readPlace_31 (by decide) ?_
      refine lv_istore (lv' := [(4, .int 0), (0, .ref a0_), (1, .int x1_), (2, .int x2_), (3, .int x3_)]) hx hb dX14_readPlace_32 hl (by decide) rfl (fun ls hl => ?_)
      refine lv_aload_n hx hb dX14_readPlace_34 rfl (lv_at hl 1 rfl) ?_
      refine lv_iload hx hb dX14_readPlace_35 (lv_at hl 0 rfl) ?_
      refine lv_aload_n hx hb dX14_readPlace_37 rfl (lv_at hl 1 rfl) ?_
      refine lv_bipush (v := 91) hx hb dX14_readPlace_38 (by decide) ?_
      have go_ := g
      refine g_calli (va_runV (As := [.int 91]) (rest := [.int 0, .ref a0_]) ⟨hx, hb, hml, hown, hts⟩ (r_X14_isSign l dC dI L kd tys f0 s.heap.size g.2.2.2.1 a0_ ma0_ ka0_ 91) (cwV 1 hts (gV_ t_2435 t_2437 t_108 t_198 t_2438) rfl rfl rfl (by decide +kernel) ⟨(show 0 + 1 ≤ N + 1 + 24 by omega), (show 8 + (2 + 11) + 0 ≤ 60 * (N + 1) + 700 by omega)⟩) (pre3V g hK ma0_ ka0_ (by decide) (q := (RX14, TX14, 67)) rfl) rfl rfl hl.1 rfl (lv_room (Nat.le_of_ble_eq_true rfl)) dX14_readPlace_40 (cl_f hck_0)) g hK (by decide) (by decide) (fx' := [(12, 8, q0_, .ref a_99), (14, 2, a0_, .ref q0_), (14, 16, a0_, .int o_), (14, 25, a0_, .int op_), (14, 10, a0_, .int t_)]) rfl (fun r_107 fr_107 H locs hp hMr_107 g => ?_)
      rcases hp with ⟨h_108, -⟩ | ⟨h_109, x_110, h_111, hF_112⟩
      · have hG_113 := isV.frame hMr_107 go_.2.2.2.1 mq0_ kq0_ (by decide) (by decide) hV
        have hG_114 := FR.frame hMr_107 go_.2.2.2.1 mq0_ kq0_ (by decide) (by decide) FR.refl
        have hG_115 := cEq.frame hMr_107 go_.2.2.2.1 ma0_ ka0_ (by decide) (by decide) hC_0
        obtain rfl : r_107 = 0 := h_108
        refine lv_icmp_ne (tgt := 50) hx hb dX14_readPlace_43 (by decide) (fun c_ => absurd c_ (by decide)) (fun c_ => ?_)
        refine lv_iconst (v := 1) hx hb dX14_readPlace_46 (by decide) ?_
        refine lv_goto (tgt := 51) hx hb dX14_readPlace_47 (by decide) ?_
        refine lv_iconst (v := 5) hx hb dX14_readPlace_51 (by decide) ?_
        refine lv_iload_n hx hb dX14_readPlace_52 rfl (lv_at hl 3 rfl) ?_
        have kb_1 : bd 1 1 (1 : Int32) := ⟨by decide, by decide⟩
        have go_ := g
        refine g_callEv (As := [.int 1, .int 5, .int x2_]) (rest := []) ⟨hx, hb, hml, hown, hts⟩ (r_X14_need_3 l dC dI L kd tys fr_107 H.size g.2.2.2.1 a0_ ma0_ ka0_ 1 kb_1 5 x2_) (cwV 3 hts (gV_ t_2403 t_2405 t_100 t_198 t_2406) rfl rfl rfl (by decide +kernel) ⟨(show 0 + 1 ≤ N + 1 + 24 by omega), (show 8 + (4 + 11) + 0 ≤ 60 * (N + 1) + 700 by omega)⟩) (pre3V g hK ma0_ ka0_ (by decide) (q := (RX14, TX14, 67)) rfl) rfl hl.1 rfl (lv_room (Nat.le_of_ble_eq_true rfl)) dX14_readPlace_53 (cl_f hck_0) g hK (by decide) (by decide) (fx' := [(12, 8, q0_, .ref a_99), (14, 2, a0_, .ref q0_), (14, 16, a0_, .int o_), (14, 25, a0_, .int op_), (14, 10, a0_, .int t_)]) rfl (fun xr_116 fr_116 H locs mxr_116 kxr_116 hp hMr_116 g => ?_) (fun fr_116 H locs hp hMr_116 g => ?_)
        · have hG_117 := isV.frame hMr_116 go_.2.2.2.1 mq0_ kq0_ (by decide) (by decide) hG_113
          have hG_118 := FR.frame hMr_116 go_.2.2.2.1 mq0_ kq0_ (by decide) (by decide) hG_114
          have hG_119 := cEq.frame hMr_116 go_.2.2.2.1 ma0_ ka0_ (by decide) (by decide) hG_115
          exact hp.elim
        · have hG_120 := isV.frame hMr_116 go_.2.2.2.1 mq0_ kq0_ (by decide) (by decide) hG_113
          have hG_121 := FR.frame hMr_116 go_.2.2.2.1 mq0_ kq0_ (by decide) (by decide) hG_114
          have hG_122 := cEq.frame hMr_116 go_.2.2.2.1 ma0_ ka0_ (by decide) (by decide) hG_115
          refine lv_iconst (v := (-1)) hx hb dX14_readPlace_56 (by decide) ?_
          refine lv_istore (lv' := [(5, .int (-1)), (4, .int 0), (0, .ref a0_), (1, .int x1_), (2, .int x2_), (3, .int x3_)]) hx hb dX14_readPlace_57 hl (by decide) rfl (fun ls hl => ?_)
          refine lv_iload hx hb dX14_readPlace_59 (lv_at hl 1 rfl) ?_
          refine lv_if_eq (tgt := 83) hx hb dX14_readPlace_61 (by decide) (fun c_ => ?_) (fun c_ => absurd (by decide) c_)
          refine lv_iload hx hb dX14_readPlace_83 (lv_at hl 0 rfl) ?_
          refine lv_iconst (v := (-1)) hx hb dX14_readPlace_85 (by decide) ?_
          refine lv_icmp_ne (tgt := 93) hx hb dX14_readPlace_86 (by decide) (fun c_ => absurd c_ (by decide)) (fun c_ => ?_)
          refine lv_iconst (v := 1) hx hb dX14_readPlace_89 (by decide) ?_
          refine lv_goto (tgt := 105) hx hb dX14_readPlace_90 (by decide) ?_
          refine lv_istore (lv' := [(6, .int 1), (5, .int (-1)), (4, .int 0), (0, .ref a0_), (1, .int x1_), (2, .int x2_), (3, .int x3_)]) hx hb dX14_readPlace_105 hl (by decide) rfl (fun ls hl => ?_)
          refine lv_aload_n hx hb dX14_readPlace_107 rfl (lv_at hl 3 rfl) ?_
          refine lv_iload_n hx hb dX14_readPlace_108 rfl (lv_at hl 6 rfl) ?_
          refine lv_if_eq (tgt := 119) hx hb dX14_readPlace_109 (by decide) (fun c_123 => ?_) (fun c_123 => ?_)
          · have fc_123 := eq_f c_123
            have b_124 : bd 0 0 x3_ := eqX fc_123 bx3_ kb_0 (by decide)
            refine lv_iconst (v := 1) hx hb dX14_readPlace_119 (by decide) ?_
            refine lv_goto (tgt := 124) hx hb dX14_readPlace_120 (by decide) ?_
            refine lv_bipush (v := 7) hx hb dX14_readPlace_124 (by decide) ?_
            refine lv_iload_n hx hb dX14_readPlace_126 rfl (lv_at hl 5 rfl) ?_
            have go_ := g
            refine g_callEv (As := [.int 1, .int 7, .int x2_]) (rest := []) ⟨hx, hb, hml, hown, hts⟩ (r_X14_need_3 l dC dI L kd tys fr_116 H.size g.2.2.2.1 a0_ ma0_ ka0_ 1 kb_1 7 x2_) (cwV 3 hts (gV_ t_2403 t_2405 t_100 t_198 t_2406) rfl rfl rfl (by decide +kernel) ⟨(show 0 + 1 ≤ N + 1 + 24 by omega), (show 8 + (4 + 11) + 0 ≤ 60 * (N + 1) + 700 by omega)⟩) (pre3V g hK ma0_ ka0_ (by decide) (q := (RX14, TX14, 67)) rfl) rfl hl.1 rfl (lv_room (Nat.le_of_ble_eq_true rfl)) dX14_readPlace_127 (cl_f hck_0) g hK (by decide) (by decide) (fx' := [(12, 8, q0_, .ref a_99), (14, 2, a0_, .ref q0_), (14, 16, a0_, .int o_), (14, 25, a0_, .int op_), (14, 10, a0_, .int t_)]) rfl (fun xr_125 fr_125 H locs mxr_125 kxr_125 hp hMr_125 g => ?_) (fun fr_125 H locs hp hMr_125 g => ?_)
            · have hG_126 := isV.frame hMr_125 go_.2.2.2.1 mq0_ kq0_ (by decide) (by decide) hG_120
              have hG_127 := FR.frame hMr_125 go_.2.2.2.1 mq0_ kq0_ (by decide) (by decide) hG_121
              have hG_128 := cEq.frame hMr_125 go_.2.2.2.1 ma0_ ka0_ (by decide) (by decide) hG_122
              exact hp.elim
            · have hG_129 := isV.frame hMr_125 go_.2.2.2.1 mq0_ kq0_ (by decide) (by decide) hG_120
              have hG_130 := FR.frame hMr_125 go_.2.2.2.1 mq0_ kq0_ (by decide) (by decide) hG_121
              have hG_131 := cEq.frame hMr_125 go_.2.2.2.1 ma0_ ka0_ (by decide) (by decide) hG_122
              refine lv_aload_n hx hb dX14_readPlace_130 rfl (lv_at hl 3 rfl) ?_
              refine lv_iconst (v := 2) hx hb dX14_readPlace_131 (by decide) ?_
              refine lv_iload hx hb dX14_readPlace_132 (lv_at hl 1 rfl) ?_
              refine lv_iconst (v := (-1)) hx hb dX14_readPlace_134 (by decide) ?_
              refine lv_iload hx hb dX14_readPlace_135 (lv_at hl 0 rfl) ?_
              have hnb : (V_.n 57).toInt ≤ 2499 := by omega
              have go_ := g
              refine g_calli (va_runV (As := [.int 2, .int (-1), .int (-1), .int 1]) (rest := []) ⟨hx, hb, hml, hown, hts⟩ (r_X14_node l dC dI L kd tys fr_125 H.size g.2.2.2.1 a0_ ma0_ ka0_ 2 (-1) (-1) 1 q0_ mq0_ kq0_ o_ bo_ V_ hG_129 hnb (g.fcts [1, 2] rfl)) (cwV 4 hts (gV_ t_2480 t_2482 t_117 t_198 t_2483) rfl rfl rfl (by decide +kernel) ⟨(show 0 + 1 ≤ N + 1 + 24 by omega), (show 8 + (6 + 11) + 0 ≤ 60 * (N + 1) + 700 by omega)⟩) (pre3V g hK ma0_ ka0_ (by decide) (q := (RX14, TX14, 67)) rfl) rfl rfl hl.1 rfl (lv_room (Nat.le_of_ble_eq_true rfl)) dX14_readPlace_137 (cl_f hck_0)) g hK (by decide) (by decide) (fx' := [(12, 8, q0_, .ref a_99), (14, 2, a0_, .ref q0_), (14, 16, a0_, .int o_), (14, 25, a0_, .int op_), (14, 10, a0_, .int t_)]) rfl (fun r_132 fr_132 H locs hp hMr_132 g => ?_)
              obtain ⟨hx_133, hx_134, h_135, x_136, h_137, hF_138⟩ := hp
              have hG_139 := cEq.frame hMr_132 go_.2.2.2.1 ma0_ ka0_ (by decide) (by decide) hG_131
              have hF_140 := FR.call (mds := []) (mas := []) hG_130 go_ mq0_ kq0_ rfl hx_134
              obtain ⟨V_141, hV_142, hN_143⟩ := hx_133
              have g := g.more hF_138
              refine lv_istore (lv' := [(7, .int r_132), (6, .int 1), (5, .int (-1)), (4, .int 0), (0, .ref a0_), (1, .int x1_), (2, .int x2_), (3, .int x3_)]) hx hb dX14_readPlace_140 hl (by decide) rfl (fun ls hl => ?_)
              refine lv_aload_n hx hb dX14_readPlace_142 rfl (lv_at hl 4 rfl) ?_
              refine g_getk (C := RX14) (T := TX14) (N := 67) hx hb hts (mc_ inX14) hown hK g rfl 2 (by decide) rfl (hts _ (List.mem_cons_of_mem _ t_2148)) (fun _ h9 => h9) 2 rfl dX14_readPlace_143 ?_
              refine g_getr (K := 204) (C := RX12) (T := TX12) (N := 60) hx hb hts (mc_ inX12) hown hK g mq0_ kq0_ (by decide) rfl 50 (by decide) rfl (hts _ (List.mem_cons_of_mem _ t_2004)) (fun _ h9 => h9) rfl dX14_readPlace_146 (fun a_144 ma_144 ka_144 g => ?_)
              refine lv_iload hx hb dX14_readPlace_149 (lv_at hl 0 rfl) ?_
              refine lv_iload_n hx hb dX14_readPlace_151 rfl (lv_at hl 5 rfl) ?_
              have gp_145 := g
              have go_ := g
              refine g_iastX hx hb hK g ma_144 ka_144 (by decide) rfl (in_bd h_135 (by decide)) (bd_sub b_98 (by decide)) (by decide) dX14_readPlace_152 (fun f H locs hM_146 u_148 g => ?_)
              have hG_147 := cEq.frame hM_146 go_.2.2.2.1 ma0_ ka0_ (by decide) (by decide) hG_139
              have hV_149 := isV.ui hV_142 gp_145 0 rfl mq0_ kq0_ rfl u_148
              have hF_150 := FR.arr hF_140 gp_145 0 rfl mq0_ kq0_ rfl rfl u_148.1
              have hN_151 := NN.s50 (v := x1_) hN_143 h_135.1
              refine lv_iload hx hb dX14_readPlace_153 (lv_at hl 0 rfl) ?_
              have hf_152 : fin V_ (V_141.ui 50 r_132.toNatClampNeg x1_) r_132 hm_ o_ := nd_place hN_151 h_135.1 hwf ⟨(by have h9_0 := bo_; unfold bd at h9_0; have h9_1 := bop_; unfold bd at h9_1; have h9_2 := h_135; unfold bd at h9_2; have h9_3 := bt_; unfold bd at h9_3; have h9_4 := b_98; unfold bd at h9_4; have h9_5 := b_124; unfold bd at h9_5; have h9_6 := b_106; unfold bd at h9_6; have h9_7 := h_137; unfold bd at h9_7; have h9_8 := b_101; unfold bd at h9_8; have h9_9 := b_103; unfold bd at h9_9; have h8_0 := kb_0; unfold bd at h8_0; have h8_1 := kb_1; unfold bd at h8_1; have h8_2 := kb_1000; unfold bd at h8_2; omega), (by have h9_0 := bo_; unfold bd at h9_0; have h9_1 := bop_; unfold bd at h9_1; have h9_2 := h_135; unfold bd at h9_2; have h9_3 := bt_; unfold bd at h9_3; have h9_4 := b_98; unfold bd at h9_4; have h9_5 := b_124; unfold bd at h9_5; have h9_6 := b_106; unfold bd at h9_6; have h9_7 := h_137; unfold bd at h9_7; have h9_8 := b_101; unfold bd at h9_8; have h9_9 := b_103; unfold bd at h9_9; have h8_0 := kb_0; unfold bd at h8_0; have h8_1 := kb_1; unfold bd at h8_1; have h8_2 := kb_1000; unfold bd at h8_2; omega)⟩ (by have h9_0 := bo_; unfold bd at h9_0; have h9_1 := bop_; unfold bd at h9_1; have h9_2 := h_135; unfold bd at h9_2; have h9_3 := bt_; unfold bd at h9_3; have h9_4 := b_98; unfold bd at h9_4; have h9_5 := b_124; unfold bd at h9_5; have h9_6 := b_106; unfold bd at h9_6; have h9_7 := h_137; unfold bd at h9_7; have h9_8 := b_101; unfold bd at h9_8; have h9_9 := b_103; unfold bd at h9_9; have h8_0 := kb_0; unfold bd at h8_0; have h8_1 := kb_1; unfold bd at h8_1; have h8_2 := kb_1000; unfold bd at h8_2; omega) ho (by decide) hv (Or.inl (by decide))
              have ho_156 : ((V_141.ui 50 r_132.toNatClampNeg x1_).i 47 r_132.toNatClampNeg).toInt = 2 := (congrArg Int32.toInt (hN_151).2.2.2.1).trans (by decide)
              obtain ⟨V_153, hV_154, hf_155, ho_156⟩ : ∃ V1 : PV, isV f q0_ V1 ∧ fin V_ V1 r_132 hm_ o_ ∧ (V1.i 47 r_132.toNatClampNeg).toInt = 2 := ⟨_, hV_149, hf_152, ho_156⟩
              have hf_155n := hf_155.2.2.2
              have hx_157 := exN.tr exN.rf hf_155.1
              have hv_158 := exN.var hf_155.1 hv
              have h9c : cF f a0_ = _ := hG_147
              subst hQ
              exact iretX (v := r_132) hx hb hr (fun t ht hW => g_retZ g hK ⟨_, rfl, ⟨⟨_, hV_154, hF_150, hx_157, hf_155.2.1, hf_155.2.2.1, ho_156, (by omega), (by omega), (by omega)⟩, t_, bt_, (g.fcts [5, 6] rfl)⟩⟩ ht hW) g.2.2.1.2.2 dX14_readPlace_155 hlocks
          · have fc_123 := neq_f c_123
            have b_159 : bd 1 1 x3_ := neX fc_123 bx3_ kb_0 (by decide)
            refine lv_iload hx hb dX14_readPlace_112 (lv_at hl 0 rfl) ?_
            refine lv_bipush (v := 12) hx hb dX14_readPlace_114 (by decide) ?_
            refine lv_icmp_gt (tgt := 123) hx hb dX14_readPlace_116 (by decide) (fun c_ => absurd c_ (by decide)) (fun c_ => ?_)
            refine lv_iconst (v := 1) hx hb dX14_readPlace_119 (by decide) ?_
            refine lv_goto (tgt := 124) hx hb dX14_readPlace_120 (by decide) ?_
            refine lv_bipush (v := 7) hx hb dX14_readPlace_124 (by decide) ?_
            refine lv_iload_n hx hb dX14_readPlace_126 rfl (lv_at hl 5 rfl) ?_
            have go_ := g
            refine g_callEv (As := [.int 1, .int 7, .int x2_]) (rest := []) ⟨hx, hb, hml, hown, hts⟩ (r_X14_need_3 l dC dI L kd tys fr_116 H.size g.2.2.2.1 a0_ ma0_ ka0_ 1 kb_1 7 x2_) (cwV 3 hts (gV_ t_2403 t_2405 t_100 t_198 t_2406) rfl rfl rfl (by decide +kernel) ⟨(show 0 + 1 ≤ N + 1 + 24 by omega), (show 8 + (4 + 11) + 0 ≤ 60 * (N + 1) + 700 by omega)⟩) (pre3V g hK ma0_ ka0_ (by decide) (q := (RX14, TX14, 67)) rfl) rfl hl.1 rfl (lv_room (Nat.le_of_ble_eq_true rfl)) dX14_readPlace_127 (cl_f hck_0) g hK (by decide) (by decide) (fx' := [(12, 8, q0_, .ref a_99), (14, 2, a0_, .ref q0_), (14, 16, a0_, .int o_), (14, 25, a0_, .int op_), (14, 10, a0_, .int t_)]) rfl (fun xr_160 fr_160 H locs mxr_160 kxr_160 hp hMr_160 g => ?_) (fun fr_160 H locs hp hMr_160 g => ?_)
            · have hG_161 := isV.frame hMr_160 go_.2.2.2.1 mq0_ kq0_ (by decide) (by decide) hG_120
              have hG_162 := FR.frame hMr_160 go_.2.2.2.1 mq0_ kq0_ (by decide) (by decide) hG_121
              have hG_163 := cEq.frame hMr_160 go_.2.2.2.1 ma0_ ka0_ (by decide) (by decide) hG_122
              exact hp.elim
            · have hG_164 := isV.frame hMr_160 go_.2.2.2.1 mq0_ kq0_ (by decide) (by decide) hG_120
              have hG_165 := FR.frame hMr_160 go_.2.2.2.1 mq0_ kq0_ (by decide) (by decide) hG_121
              have hG_166 := cEq.frame hMr_160 go_.2.2.2.1 ma0_ ka0_ (by decide) (by decide) hG_122
              refine lv_aload_n hx hb dX14_readPlace_130 rfl (lv_at hl 3 rfl) ?_
              refine lv_iconst (v := 2) hx hb dX14_readPlace_131 (by decide) ?_
              refine lv_iload hx hb dX14_readPlace_132 (lv_at hl 1 rfl) ?_
              refine lv_iconst (v := (-1)) hx hb dX14_readPlace_134 (by decide) ?_
              refine lv_iload hx hb dX14_readPlace_135 (lv_at hl 0 rfl) ?_
              have hnb : (V_.n 57).toInt ≤ 2499 := by omega
              have go_ := g
              refine g_calli (va_runV (As := [.int 2, .int (-1), .int (-1), .int 1]) (rest := []) ⟨hx, hb, hml, hown, hts⟩ (r_X14_node l dC dI L kd tys fr_160 H.size g.2.2.2.1 a0_ ma0_ ka0_ 2 (-1) (-1) 1 q0_ mq0_ kq0_ o_ bo_ V_ hG_164 hnb (g.fcts [1, 2] rfl)) (cwV 4 hts (gV_ t_2480 t_2482 t_117 t_198 t_2483) rfl rfl rfl (by decide +kernel) ⟨(show 0 + 1 ≤ N + 1 + 24 by omega), (show 8 + (6 + 11) + 0 ≤ 60 * (N + 1) + 700 by omega)⟩) (pre3V g hK ma0_ ka0_ (by decide) (q := (RX14, TX14, 67)) rfl) rfl rfl hl.1 rfl (lv_room (Nat.le_of_ble_eq_true rfl)) dX14_readPlace_137 (cl_f hck_0)) g hK (by decide) (by decide) (fx' := [(12, 8, q0_, .ref a_99), (14, 2, a0_, .ref q0_), (14, 16, a0_, .int o_), (14, 25, a0_, .int op_), (14, 10, a0_, .int t_)]) rfl (fun r_167 fr_167 H locs hp hMr_167 g => ?_)
              obtain ⟨hx_168, hx_169, h_170, x_171, h_172, hF_173⟩ := hp
              have hG_174 := cEq.frame hMr_167 go_.2.2.2.1 ma0_ ka0_ (by decide) (by decide) hG_166
              have hF_175 := FR.call (mds := []) (mas := []) hG_165 go_ mq0_ kq0_ rfl hx_169
              obtain ⟨V_176, hV_177, hN_178⟩ := hx_168
              have g := g.more hF_173
              refine lv_istore (lv' := [(7, .int r_167), (6, .int 1), (5, .int (-1)), (4, .int 0), (0, .ref a0_), (1, .int x1_), (2, .int x2_), (3, .int x3_)]) hx hb dX14_readPlace_140 hl (by decide) rfl (fun ls hl => ?_)
              refine lv_aload_n hx hb dX14_readPlace_142 rfl (lv_at hl 4 rfl) ?_
              refine g_getk (C := RX14) (T := TX14) (N := 67) hx hb hts (mc_ inX14) hown hK g rfl 2 (by decide) rfl (hts _ (List.mem_cons_of_mem _ t_2148)) (fun _ h9 => h9) 2 rfl dX14_readPlace_143 ?_
              refine g_getr (K := 204) (C := RX12) (T := TX12) (N := 60) hx hb hts (mc_ inX12) hown hK g mq0_ kq0_ (by decide) rfl 50 (by decide) rfl (hts _ (List.mem_cons_of_mem _ t_2004)) (fun _ h9 => h9) rfl dX14_readPlace_146 (fun a_179 ma_179 ka_179 g => ?_)
              refine lv_iload hx hb dX14_readPlace_149 (lv_at hl 0 rfl) ?_
              refine lv_iload_n hx hb dX14_readPlace_151 rfl (lv_at hl 5 rfl) ?_
              have gp_180 := g
              have go_ := g
              refine g_iastX hx hb hK g ma_179 ka_179 (by decide) rfl (in_bd h_170 (by decide)) (bd_sub b_98 (by decide)) (by decide) dX14_readPlace_152 (fun f H locs hM_181 u_183 g => ?_)
              have hG_182 := cEq.frame hM_181 go_.2.2.2.1 ma0_ ka0_ (by decide) (by decide) hG_174
              have hV_184 := isV.ui hV_177 gp_180 0 rfl mq0_ kq0_ rfl u_183
              have hF_185 := FR.arr hF_175 gp_180 0 rfl mq0_ kq0_ rfl rfl u_183.1
              have hN_186 := NN.s50 (v := x1_) hN_178 h_170.1
              refine lv_iload hx hb dX14_readPlace_153 (lv_at hl 0 rfl) ?_
              have hf_187 : fin V_ (V_176.ui 50 r_167.toNatClampNeg x1_) r_167 hm_ o_ := nd_place hN_186 h_170.1 hwf ⟨(by have h9_0 := bo_; unfold bd at h9_0; have h9_1 := bop_; unfold bd at h9_1; have h9_2 := h_170; unfold bd at h9_2; have h9_3 := bt_; unfold bd at h9_3; have h9_4 := b_98; unfold bd at h9_4; have h9_5 := b_159; unfold bd at h9_5; have h9_6 := b_106; unfold bd at h9_6; have h9_7 := h_172; unfold bd at h9_7; have h9_8 := b_101; unfold bd at h9_8; have h9_9 := b_103; unfold bd at h9_9; have h8_0 := kb_0; unfold bd at h8_0; have h8_1 := kb_1; unfold bd at h8_1; have h8_2 := kb_1000; unfold bd at h8_2; omega), (by have h9_0 := bo_; unfold bd at h9_0; have h9_1 := bop_; unfold bd at h9_1; have h9_2 := h_170; unfold bd at h9_2; have h9_3 := bt_; unfold bd at h9_3; have h9_4 := b_98; unfold bd at h9_4; have h9_5 := b_159; unfold bd at h9_5; have h9_6 := b_106; unfold bd at h9_6; have h9_7 := h_172; unfold bd at h9_7; have h9_8 := b_101; unfold bd at h9_8; have h9_9 := b_103; unfold bd at h9_9; have h8_0 := kb_0; unfold bd at h8_0; have h8_1 := kb_1; unfold bd at h8_1; have h8_2 := kb_1000; unfold bd at h8_2; omega)⟩ (by have h9_0 := bo_; unfold bd at h9_0; have h9_1 := bop_; unfold bd at h9_1; have h9_2 := h_170; unfold bd at h9_2; have h9_3 := bt_; unfold bd at h9_3; have h9_4 := b_98; unfold bd at h9_4; have h9_5 := b_159; unfold bd at h9_5; have h9_6 := b_106; unfold bd at h9_6; have h9_7 := h_172; unfold bd at h9_7; have h9_8 := b_101; unfold bd at h9_8; have h9_9 := b_103; unfold bd at h9_9; have h8_0 := kb_0; unfold bd at h8_0; have h8_1 := kb_1; unfold bd at h8_1; have h8_2 := kb_1000; unfold bd at h8_2; omega) ho (by decide) hv (Or.inl (by decide))
              have ho_191 : ((V_176.ui 50 r_167.toNatClampNeg x1_).i 47 r_167.toNatClampNeg).toInt = 2 := (congrArg Int32.toInt (hN_186).2.2.2.1).trans (by decide)
              obtain ⟨V_188, hV_189, hf_190, ho_191⟩ : ∃ V1 : PV, isV f q0_ V1 ∧ fin V_ V1 r_167 hm_ o_ ∧ (V1.i 47 r_167.toNatClampNeg).toInt = 2 := ⟨_, hV_184, hf_187, ho_191⟩
              have hf_190n := hf_190.2.2.2
              have hx_192 := exN.tr exN.rf hf_190.1
              have hv_193 := exN.var hf_190.1 hv
              have h9c : cF f a0_ = _ := hG_182
              subst hQ
              exact iretX (v := r_167) hx hb hr (fun t ht hW => g_retZ g hK ⟨_, rfl, ⟨⟨_, hV_189, hF_185, hx_192, hf_190.2.1, hf_190.2.2.1, ho_191, (by omega), (by omega), (by omega)⟩, t_, bt_, (g.fcts [5, 6] rfl)⟩⟩ ht hW) g.2.2.1.2.2 dX14_readPlace_155 hlocks
      · have hG_194 := isV.frame hMr_107 go_.2.2.2.1 mq0_ kq0_ (by decide) (by decide) hV
        have hG_195 := FR.frame hMr_107 go_.2.2.2.1 mq0_ kq0_ (by decide) (by decide) FR.refl
        have hG_196 := cEq.frame hMr_107 go_.2.2.2.1 ma0_ ka0_ (by decide) (by decide) hC_0
        obtain rfl : r_107 = 1 := h_109
        have g := g.more hF_112
        refine lv_icmp_ne (tgt := 50) hx hb dX14_readPlace_43 (by decide) (fun c_ => ?_) (fun c_ => absurd c_ (by decide))
        refine lv_iconst (v := 0) hx hb dX14_readPlace_50 (by decide) ?_
        refine lv_iconst (v := 5) hx hb dX14_readPlace_51 (by decide) ?_
        refine lv_iload_n hx hb dX14_readPlace_52 rfl (lv_at hl 3 rfl) ?_
        have hs_197 := sE_1 g 0 rfl (by have h9_0 := bo_; unfold bd at h9_0; have h9_1 := bop_; unfold bd at h9_1; have h9_2 := bt_; unfold bd at h9_2; have h9_3 := b_98; unfold bd at h9_3; have h9_4 := bx3_; unfold bd at h9_4; have h9_5 := b_106; unfold bd at h9_5; have h9_6 := h_111; unfold bd at h9_6; have h9_7 := b_101; unfold bd at h9_7; have h9_8 := b_103; unfold bd at h9_8; have h8_0 := kb_0; unfold bd at h8_0; have h8_1 := kb_1000; unfold bd at h8_1; omega)
        have go_ := g
        refine g_callEv (As := [.int 0, .int 5, .int x2_]) (rest := []) ⟨hx, hb, hml, hown, hts⟩ (r_X14_need_2 l dC dI L kd tys fr_107 H.size g.2.2.2.1 a0_ ma0_ ka0_ 0 kb_0 5 x2_) (cwV 3 hts (gV_ t_2403 t_2405 t_100 t_198 t_2406) rfl rfl rfl (by decide +kernel) ⟨(show 1 + 1 ≤ N + 1 + 24 by omega), (show 8 + (4 + 11) + 22 ≤ 60 * (N + 1) + 700 by omega)⟩) (pre3V g hK ma0_ ka0_ (by decide) (q := (RX14, TX14, 67)) rfl) rfl hl.1 rfl (lv_room (Nat.le_of_ble_eq_true rfl)) dX14_readPlace_53 (cl_f hck_0) g hK (by decide) (by decide) (fx' := [(14, 6, a0_, .int x_110), (12, 8, q0_, .ref a_99), (14, 2, a0_, .ref q0_), (14, 16, a0_, .int o_), (14, 25, a0_, .int op_), (14, 10, a0_, .int t_)]) rfl (fun xr_198 fr_198 H locs mxr_198 kxr_198 hp hMr_198 g => ?_) (fun fr_198 H locs hp hMr_198 g => ?_)
        · have hG_199 := isV.frame hMr_198 go_.2.2.2.1 mq0_ kq0_ (by decide) (by decide) hG_194
          have hG_200 := FR.frame hMr_198 go_.2.2.2.1 mq0_ kq0_ (by decide) (by decide) hG_195
          have hG_201 := cEq.frame hMr_198 go_.2.2.2.1 ma0_ ka0_ (by decide) (by decide) hG_196
          subst hQ
          exact leavesX hempty hlocks (fun t ht hW => g_thrZ g hK mxr_198 kxr_198 ⟨hG_200, (by omega)⟩ ht hW) g.2.2.1.2.2
        · exact hp.elim
    · have fc_105 := nle_f c_105
      have b_202 : bd 1 8 x_104 := ltR fc_105 kb_0 bx_104 (by decide)
      refine lv_iconst (v := 1) hx hb dX14_readPlace_27 (by decide) ?_
      refine lv_goto (tgt := 32) hx hb dX14_readPlace_28 (by decide) ?_
      refine lv_istore (lv' := [(4, .int 1), (0, .ref a0_), (1, .int x1_), (2, .int x2_), (3, .int x3_)]) hx hb dX14_readPlace_32 hl (by decide) rfl (fun ls hl => ?_)
      refine lv_aload_n hx hb dX14_readPlace_34 rfl (lv_at hl 1 rfl) ?_
      refine lv_iload hx hb dX14_readPlace_35 (lv_at hl 0 rfl) ?_
      refine lv_aload_n hx hb dX14_readPlace_37 rfl (lv_at hl 1 rfl) ?_
      refine lv_bipush (v := 91) hx hb dX14_readPlace_38 (by decide) ?_
      have go_ := g
      refine g_calli (va_runV (As := [.int 91]) (rest := [.int 1, .ref a0_]) ⟨hx, hb, hml, hown, hts⟩ (r_X14_isSign l dC dI L kd tys f0 s.heap.size g.2.2.2.1 a0_ ma0_ ka0_ 91) (cwV 1 hts (gV_ t_2435 t_2437 t_108 t_198 t_2438) rfl rfl rfl (by decide +kernel) ⟨(show 0 + 1 ≤ N + 1 + 24 by omega), (show 8 + (2 + 11) + 0 ≤ 60 * (N + 1) + 700 by omega)⟩) (pre3V g hK ma0_ ka0_ (by decide) (q := (RX14, TX14, 67)) rfl) rfl rfl hl.1 rfl (lv_room (Nat.le_of_ble_eq_true rfl)) dX14_readPlace_40 (cl_f hck_0)) g hK (by decide) (by decide) (fx' := [(12, 8, q0_, .ref a_99), (14, 2, a0_, .ref q0_), (14, 16, a0_, .int o_), (14, 25, a0_, .int op_), (14, 10, a0_, .int t_)]) rfl (fun r_203 fr_203 H locs hp hMr_203 g => ?_)
      rcases hp with ⟨h_204, -⟩ | ⟨h_205, x_206, h_207, hF_208⟩
      · have hG_209 := isV.frame hMr_203 go_.2.2.2.1 mq0_ kq0_ (by decide) (by decide) hV
        have hG_210 := FR.frame hMr_203 go_.2.2.2.1 mq0_ kq0_ (by decide) (by decide) FR.refl
        have hG_211 := cEq.frame hMr_203 go_.2.2.2.1 ma0_ ka0_ (by decide) (by decide) hC_0
        obtain rfl : r_203 = 0 := h_204
        refine lv_icmp_ne (tgt := 50) hx hb dX14_readPlace_43 (by decide) (fun c_ => ?_) (fun c_ => absurd c_ (by decide))
        refine lv_iconst (v := 0) hx hb dX14_readPlace_50 (by decide) ?_
        refine lv_iconst (v := 5) hx hb dX14_readPlace_51 (by decide) ?_
        refine lv_iload_n hx hb dX14_readPlace_52 rfl (lv_at hl 3 rfl) ?_
        have go_ := g
        refine g_callEv (As := [.int 0, .int 5, .int x2_]) (rest := []) ⟨hx, hb, hml, hown, hts⟩ (r_X14_need_2 l dC dI L kd tys fr_203 H.size g.2.2.2.1 a0_ ma0_ ka0_ 0 kb_0 5 x2_) (cwV 3 hts (gV_ t_2403 t_2405 t_100 t_198 t_2406) rfl rfl rfl (by decide +kernel) ⟨(show 1 + 1 ≤ N + 1 + 24 by omega), (show 8 + (4 + 11) + 22 ≤ 60 * (N + 1) + 700 by omega)⟩) (pre3V g hK ma0_ ka0_ (by decide) (q := (RX14, TX14, 67)) rfl) rfl hl.1 rfl (lv_room (Nat.le_of_ble_eq_true rfl)) dX14_readPlace_53 (cl_f hck_0) g hK (by decide) (by decide) (fx' := [(12, 8, q0_, .ref a_99), (14, 2, a0_, .ref q0_), (14, 16, a0_, .int o_), (14, 25, a0_, .int op_), (14, 10, a0_, .int t_)]) rfl (fun xr_212 fr_212 H locs mxr_212 kxr_212 hp hMr_212 g => ?_) (fun fr_212 H locs hp hMr_212 g => ?_)
        · have hG_213 := isV.frame hMr_212 go_.2.2.2.1 mq0_ kq0_ (by decide) (by decide) hG_209
          have hG_214 := FR.frame hMr_212 go_.2.2.2.1 mq0_ kq0_ (by decide) (by decide) hG_210
          have hG_215 := cEq.frame hMr_212 go_.2.2.2.1 ma0_ ka0_ (by decide) (by decide) hG_211
          subst hQ
          exact leavesX hempty hlocks (fun t ht hW => g_thrZ g hK mxr_212 kxr_212 ⟨hG_214, (by omega)⟩ ht hW) g.2.2.1.2.2
        · exact hp.elim
      · have hG_216 := isV.frame hMr_203 go_.2.2.2.1 mq0_ kq0_ (by decide) (by decide) hV
        have hG_217 := FR.frame hMr_203 go_.2.2.2.1 mq0_ kq0_ (by decide) (by decide) FR.refl
        have hG_218 := cEq.frame hMr_203 go_.2.2.2.1 ma0_ ka0_ (by decide) (by decide) hC_0
        obtain rfl : r_203 = 1 := h_205
        have g := g.more hF_208
        refine lv_icmp_ne (tgt := 50) hx hb dX14_readPlace_43 (by decide) (fun c_ => absurd c_ (by decide)) (fun c_ => ?_)
        refine lv_iconst (v := 1) hx hb dX14_readPlace_46 (by decide) ?_
        refine lv_goto (tgt := 51) hx hb dX14_readPlace_47 (by decide) ?_
        refine lv_iconst (v := 5) hx hb dX14_readPlace_51 (by decide) ?_
        refine lv_iload_n hx hb dX14_readPlace_52 rfl (lv_at hl 3 rfl) ?_
        have hs_219 := sE_1 g 0 rfl (by have h9_0 := bo_; unfold bd at h9_0; have h9_1 := bop_; unfold bd at h9_1; have h9_2 := bt_; unfold bd at h9_2; have h9_3 := b_98; unfold bd at h9_3; have h9_4 := bx3_; unfold bd at h9_4; have h9_5 := b_202; unfold bd at h9_5; have h9_6 := h_207; unfold bd at h9_6; have h9_7 := b_101; unfold bd at h9_7; have h9_8 := b_103; unfold bd at h9_8; have h8_0 := kb_0; unfold bd at h8_0; have h8_1 := kb_1000; unfold bd at h8_1; omega)
        have kb_1 : bd 1 1 (1 : Int32) := ⟨by decide, by decide⟩
        have go_ := g
        refine g_callEv (As := [.int 1, .int 5, .int x2_]) (rest := []) ⟨hx, hb, hml, hown, hts⟩ (r_X14_need_3 l dC dI L kd tys fr_203 H.size g.2.2.2.1 a0_ ma0_ ka0_ 1 kb_1 5 x2_) (cwV 3 hts (gV_ t_2403 t_2405 t_100 t_198 t_2406) rfl rfl rfl (by decide +kernel) ⟨(show 0 + 1 ≤ N + 1 + 24 by omega), (show 8 + (4 + 11) + 0 ≤ 60 * (N + 1) + 700 by omega)⟩) (pre3V g hK ma0_ ka0_ (by decide) (q := (RX14, TX14, 67)) rfl) rfl hl.1 rfl (lv_room (Nat.le_of_ble_eq_true rfl)) dX14_readPlace_53 (cl_f hck_0) g hK (by decide) (by decide) (fx' := [(14, 6, a0_, .int x_206), (12, 8, q0_, .ref a_99), (14, 2, a0_, .ref q0_), (14, 16, a0_, .int o_), (14, 25, a0_, .int op_), (14, 10, a0_, .int t_)]) rfl (fun xr_220 fr_220 H locs mxr_220 kxr_220 hp hMr_220 g => ?_) (fun fr_220 H locs hp hMr_220 g => ?_)
        · have hG_221 := isV.frame hMr_220 go_.2.2.2.1 mq0_ kq0_ (by decide) (by decide) hG_216
          have hG_222 := FR.frame hMr_220 go_.2.2.2.1 mq0_ kq0_ (by decide) (by decide) hG_217
          have hG_223 := cEq.frame hMr_220 go_.2.2.2.1 ma0_ ka0_ (by decide) (by decide) hG_218
          exact hp.elim
        · have hG_224 := isV.frame hMr_220 go_.2.2.2.1 mq0_ kq0_ (by decide) (by decide) hG_216
          have hG_225 := FR.frame hMr_220 go_.2.2.2.1 mq0_ kq0_ (by decide) (by decide) hG_217
          have hG_226 := cEq.frame hMr_220 go_.2.2.2.1 ma0_ ka0_ (by decide) (by decide) hG_218
          refine lv_iconst (v := (-1)) hx hb dX14_readPlace_56 (by decide) ?_
          refine lv_istore (lv' := [(5, .int (-1)), (4, .int 1), (0, .ref a0_), (1, .int x1_), (2, .int x2_), (3, .int x3_)]) hx hb dX14_readPlace_57 hl (by decide) rfl (fun ls hl => ?_)
          refine lv_iload hx hb dX14_readPlace_59 (lv_at hl 1 rfl) ?_
          refine lv_if_eq (tgt := 83) hx hb dX14_readPlace_61 (by decide) (fun c_ => absurd c_ (by decide)) (fun c_ => ?_)
          refine lv_aload_n hx hb dX14_readPlace_64 rfl (lv_at hl 2 rfl) ?_
          refine lv_bipush (v := 91) hx hb dX14_readPlace_65 (by decide) ?_
          have hs_227 := sE_1 g 0 rfl (by have h9_0 := bo_; unfold bd at h9_0; have h9_1 := bop_; unfold bd at h9_1; have h9_2 := bt_; unfold bd at h9_2; have h9_3 := b_98; unfold bd at h9_3; have h9_4 := bx3_; unfold bd at h9_4; have h9_5 := b_202; unfold bd at h9_5; have h9_6 := h_207; unfold bd at h9_6; have h9_7 := b_101; unfold bd at h9_7; have h9_8 := b_103; unfold bd at h9_8; have h8_0 := kb_0; unfold bd at h8_0; have h8_1 := kb_1; unfold bd at h8_1; have h8_2 := kb_1000; unfold bd at h8_2; omega)
          have go_ := g
          refine g_callEv (As := [.int 91]) (rest := []) ⟨hx, hb, hml, hown, hts⟩ (r_X14_opening_2 l dC dI L kd tys fr_220 H.size g.2.2.2.1 adK adV a0_ ma0_ ka0_ 91 t_ bt_ op_ bop_ (g.fcts [5, 4] rfl)) (cwV 1 hts (gV_ t_2484 t_2486 t_118 t_198 t_2487) rfl rfl rfl (by decide +kernel) ⟨(show 7 + 1 ≤ N + 1 + 24 by omega), (show 8 + (2 + 11) + 155 ≤ 60 * (N + 1) + 700 by omega)⟩) (pre3VA g hK hAm ma0_ ka0_ (by decide) (q := (RX14, TX14, 67)) rfl) rfl hl.1 rfl (lv_room (Nat.le_of_ble_eq_true rfl)) dX14_readPlace_67 (cl_f hck_0) g hK (by decide) (by decide) (fx' := [(12, 8, q0_, .ref a_99), (14, 2, a0_, .ref q0_), (14, 16, a0_, .int o_)]) rfl (fun xr_228 fr_228 H locs mxr_228 kxr_228 hp hMr_228 g => ?_) (fun fr_228 H locs hp hMr_228 g => ?_)
          · have hG_229 := isV.frame hMr_228 go_.2.2.2.1 mq0_ kq0_ (by decide) (by decide) hG_224
            have hG_230 := FR.frame hMr_228 go_.2.2.2.1 mq0_ kq0_ (by decide) (by decide) hG_225
            subst hQ
            exact leavesX hempty hlocks (fun t ht hW => g_thrZ g hK mxr_228 kxr_228 ⟨hG_230, (by omega)⟩ ht hW) g.2.2.1.2.2
          · obtain ⟨hx_231, h_232, h_233, x_234, h_235, x_236, ⟨h_237, rh_237⟩, hF_238⟩ := hp
            have hG_239 := isV.frame hMr_228 go_.2.2.2.1 mq0_ kq0_ (by decide) (by decide) hG_224
            have hG_240 := FR.frame hMr_228 go_.2.2.2.1 mq0_ kq0_ (by decide) (by decide) hG_225
            obtain ⟨E_241, hE_241⟩ : ∃ E : Int, cEq fr_228 a0_ E := ⟨_, rfl⟩
            have mxE_241 : E_241 ≤ 1202 := by have h9 := cF_le g ma0_ ka0_; have h8 : cF _ _ = _ := hE_241; omega
            have lE_241 : (cF f0 a0_) + 1 ≤ E_241 := by have h9 := hx_231; have h8 : cF _ _ = _ := hE_241; have h7 : cF _ _ = _ := hG_226; omega
            have b_242 : bd 0 1200 t_ := eqX rfl bt_ h_232 (by decide)
            have b_243 : bd 0 39 op_ := eqX rfl bop_ h_233 (by decide)
            have g := g.more hF_238
            refine lv_aload_n hx hb dX14_readPlace_70 rfl (lv_at hl 2 rfl) ?_
            refine lv_iconst (v := 1) hx hb dX14_readPlace_71 (by decide) ?_
            have qc__244 : cF fr_228 a0_ = _ := hE_241
            have go_ := g
            refine g_callZi (As := [.int 1]) (rest := []) ⟨hx, hb, hml, hown, hts⟩ (ih.1 l dC dI L kd tys fr_228 H.size g.2.2.2.1 adK adV a0_ ma0_ ka0_ (1 : Int32) (bd_sub kb_1 (by decide)) q0_ mq0_ kq0_ V_ o_ bo_ x_236 (bd_sub h_237 (by decide)) x_234 h_235 hG_239 hwf ho (by omega) (K_ - cl_0) (by omega) (by have h9_0 := bo_; unfold bd at h9_0; have h9_1 := b_243; unfold bd at h9_1; have h9_2 := b_242; unfold bd at h9_2; have h9_3 := b_98; unfold bd at h9_3; have h9_4 := bx3_; unfold bd at h9_4; have h9_5 := b_202; unfold bd at h9_5; have h9_6 := h_207; unfold bd at h9_6; have h9_7 := h_235; unfold bd at h9_7; have h9_8 := h_237; unfold bd at h9_8; have h9_9 := b_101; unfold bd at h9_9; have h9_10 := b_103; unfold bd at h9_10; have h8_0 := kb_0; unfold bd at h8_0; have h8_1 := kb_1; unfold bd at h8_1; have h8_2 := kb_1000; unfold bd at h8_2; omega) (g.fcts [3, 4, 1, 0] rfl)) (cwV 1 hts (gV_ t_2464 t_2466 t_113 t_198 t_2467) rfl rfl rfl (by decide +kernel) ⟨(show N + 24 + 1 ≤ N + 1 + 24 by omega), (show 8 + (7 + 11) + (60 * N + 700) ≤ 60 * (N + 1) + 700 by omega)⟩) (pre3VA g hK hAm ma0_ ka0_ (by decide) (q := (RX14, TX14, 67)) rfl) rfl hl.1 rfl (lv_room (Nat.le_of_ble_eq_true rfl)) dX14_readPlace_72 (cl_k (K := K_) (k := K_ - cl_0) (show cl_0 + (K_ - cl_0) ≤ K_ by omega)) g hK (by decide) (by decide) (fx' := [(12, 8, q0_, .ref a_99), (14, 2, a0_, .ref q0_), (14, 16, a0_, .int o_)]) rfl (fun xr_245 fr_245 H locs kr_245 cr_245 ecr_245 mxr_245 kxr_245 hp hMr_245 g => ?_) (fun r_245 fr_245 H locs kr_245 cr_245 ecr_245 hp hMr_245 g => ?_)
            · have hF_246 := FR.call (mds := []) (mas := []) hG_240 go_ mq0_ kq0_ rfl hp.1
              have hpk := hp.2
              subst hQ
              exact leavesX hempty hlocks (fun t ht hW => g_thrZ g hK mxr_245 kxr_245 ⟨hF_246, (by omega)⟩ ht hW) g.2.2.1.2.2
            · obtain ⟨hx_247, x_248, h_249, hF_250⟩ := hp
              obtain ⟨V_251, E_252, hV_253, hF_254, hE_255, hX_256, hw_257, hv_258, hP_259, hn_260, hk_261, hc_262⟩ := rd_use hx_247 hE_241
              have hF_263 := FR.call (mds := []) (mas := []) hG_240 go_ mq0_ kq0_ rfl hF_254
              have mxE_252 : E_252 ≤ 1202 := by have h9 := cF_le g ma0_ ka0_; have h8 : cF _ _ = _ := hE_255; omega
              have hx_264 := exN.tr exN.rf hX_256
              have hv_265 := exN.var hX_256 hv
              have hck_266 : cr_245 ≤ K_ := by omega
              have b_267 : bd 0 2499 r_245 := ⟨hv_258.1, (by have h9 := hv_258.2.1; omega)⟩
              have g := g.more hF_250
              refine lv_istore (lv' := [(5, .int r_245), (4, .int 1), (0, .ref a0_), (1, .int x1_), (2, .int x2_), (3, .int x3_)]) hx hb dX14_readPlace_75 hl (by decide) rfl (fun ls hl => ?_)
              refine lv_aload_n hx hb dX14_readPlace_77 rfl (lv_at hl 2 rfl) ?_
              refine lv_bipush (v := 93) hx hb dX14_readPlace_78 (by decide) ?_
              have go_ := g
              refine g_callEv (As := [.int 93]) (rest := []) ⟨hx, hb, hml, hown, hts⟩ (r_X14_closing l dC dI L kd tys fr_245 H.size g.2.2.2.1 adK adV a0_ ma0_ ka0_ 93 x_248 h_249 x_236 h_237 (g.fcts [1, 0] rfl)) (cwV 1 hts (gV_ t_2492 t_2494 t_120 t_198 t_2495) rfl rfl rfl (by decide +kernel) ⟨(show 8 + 1 ≤ N + 1 + 24 by omega), (show 8 + (2 + 11) + 176 ≤ 60 * (N + 1) + 700 by omega)⟩) (pre3VA g hK hAm ma0_ ka0_ (by decide) (q := (RX14, TX14, 67)) rfl) rfl hl.1 rfl (lv_room (Nat.le_of_ble_eq_true rfl)) dX14_readPlace_80 (cl_f hck_266) g hK (by decide) (by decide) (fx' := [(12, 8, q0_, .ref a_99), (14, 2, a0_, .ref q0_), (14, 16, a0_, .int o_)]) rfl (fun xr_268 fr_268 H locs mxr_268 kxr_268 hp hMr_268 g => ?_) (fun fr_268 H locs hp hMr_268 g => ?_)
              · have hG_269 := isV.frame hMr_268 go_.2.2.2.1 mq0_ kq0_ (by decide) (by decide) hV_253
                have hG_270 := FR.frame hMr_268 go_.2.2.2.1 mq0_ kq0_ (by decide) (by decide) hF_263
                subst hQ
                exact leavesX hempty hlocks (fun t ht hW => g_thrZ g hK mxr_268 kxr_268 ⟨hG_270, (by omega)⟩ ht hW) g.2.2.1.2.2
              · obtain ⟨hx_271, h_272, x_273, h_274, x_275, ⟨h_276, rh_276⟩, hF_277⟩ := hp
                have hG_278 := isV.frame hMr_268 go_.2.2.2.1 mq0_ kq0_ (by decide) (by decide) hV_253
                have hG_279 := FR.frame hMr_268 go_.2.2.2.1 mq0_ kq0_ (by decide) (by decide) hF_263
                obtain ⟨E_280, hE_280⟩ : ∃ E : Int, cEq fr_268 a0_ E := ⟨_, rfl⟩
                have mxE_280 : E_280 ≤ 1202 := by have h9 := cF_le g ma0_ ka0_; have h8 : cF _ _ = _ := hE_280; omega
                have lE_280 : E_252 + 1 ≤ E_280 := by have h9 := hx_271; have h8 : cF _ _ = _ := hE_280; have h7 : cF _ _ = _ := hE_255; omega
                have b_281 : bd 0 1200 x_248 := eqX rfl h_249 h_272 (by decide)
                have g := g.more hF_277
                refine lv_iload hx hb dX14_readPlace_83 (lv_at hl 0 rfl) ?_
                refine lv_iconst (v := (-1)) hx hb dX14_readPlace_85 (by decide) ?_
                have kb_m1 : bd (-1) (-1) ((-1) : Int32) := ⟨by decide, by decide⟩
                refine lv_icmp_ne (tgt := 93) hx hb dX14_readPlace_86 (by decide) (fun c_282 => ?_) (fun c_282 => ?_)
                · have fc_282 := neq_f c_282
                  refine lv_iconst (v := 1) hx hb dX14_readPlace_93 (by decide) ?_
                  refine lv_aload_n hx hb dX14_readPlace_94 rfl (lv_at hl 2 rfl) ?_
                  refine g_getk (C := RX14) (T := TX14) (N := 67) hx hb hts (mc_ inX14) hown hK g rfl 2 (by decide) rfl (hts _ (List.mem_cons_of_mem _ t_2148)) (fun _ h9 => h9) 3 rfl dX14_readPlace_95 ?_
                  refine g_getr (K := 205) (C := RX12) (T := TX12) (N := 60) hx hb hts (mc_ inX12) hown hK g mq0_ kq0_ (by decide) rfl 51 (by decide) rfl (hts _ (List.mem_cons_of_mem _ t_2006)) (fun _ h9 => h9) rfl dX14_readPlace_98 (fun a_283 ma_283 ka_283 g => ?_)
                  refine lv_iload hx hb dX14_readPlace_101 (lv_at hl 0 rfl) ?_
                  refine g_iald hx hb hK g ma_283 ka_283 (by decide) rfl (in_bd b_267 (by decide)) dX14_readPlace_103 (fun x_284 bx_284 cx_284 => ?_)
                  have vx_284 : x_284 = V_251.i 51 r_245.toNatClampNeg := hG_278.at g 0 rfl rfl cx_284
                  have b_285 : bd 1 12 x_284 := ev_hb hw_257 hv_258 vx_284
                  refine lv_iadd hx hb dX14_readPlace_104 ?_
                  refine lv_topi (fun y_286 ey_286 => ?_)
                  have ty_286 := add_bd ey_286 kb_1 b_285 (by decide)
                  have b_287 : bd 2 13 y_286 := add_rg ty_286 kb_1 b_285 (by decide)
                  refine lv_istore (lv' := [(6, .int y_286), (5, .int r_245), (4, .int 1), (0, .ref a0_), (1, .int x1_), (2, .int x2_), (3, .int x3_)]) hx hb dX14_readPlace_105 hl (by decide) rfl (fun ls hl => ?_)
                  refine lv_aload_n hx hb dX14_readPlace_107 rfl (lv_at hl 3 rfl) ?_
                  refine lv_iload_n hx hb dX14_readPlace_108 rfl (lv_at hl 6 rfl) ?_
                  refine lv_if_eq (tgt := 119) hx hb dX14_readPlace_109 (by decide) (fun c_288 => ?_) (fun c_288 => ?_)
                  · have fc_288 := eq_f c_288
                    have b_289 : bd 0 0 x3_ := eqX fc_288 bx3_ kb_0 (by decide)
                    refine lv_iconst (v := 1) hx hb dX14_readPlace_119 (by decide) ?_
                    refine lv_goto (tgt := 124) hx hb dX14_readPlace_120 (by decide) ?_
                    refine lv_bipush (v := 7) hx hb dX14_readPlace_124 (by decide) ?_
                    refine lv_iload_n hx hb dX14_readPlace_126 rfl (lv_at hl 5 rfl) ?_
                    have go_ := g
                    refine g_callEv (As := [.int 1, .int 7, .int x2_]) (rest := []) ⟨hx, hb, hml, hown, hts⟩ (r_X14_need_3 l dC dI L kd tys fr_268 H.size g.2.2.2.1 a0_ ma0_ ka0_ 1 kb_1 7 x2_) (cwV 3 hts (gV_ t_2403 t_2405 t_100 t_198 t_2406) rfl rfl rfl (by decide +kernel) ⟨(show 0 + 1 ≤ N + 1 + 24 by omega), (show 8 + (4 + 11) + 0 ≤ 60 * (N + 1) + 700 by omega)⟩) (pre3V g hK ma0_ ka0_ (by decide) (q := (RX14, TX14, 67)) rfl) rfl hl.1 rfl (lv_room (Nat.le_of_ble_eq_true rfl)) dX14_readPlace_127 (cl_f hck_266) g hK (by decide) (by decide) (fx' := [(12, 51, q0_, .ref a_283), (14, 10, a0_, .int x_273), (14, 25, a0_, .int x_275), (12, 8, q0_, .ref a_99), (14, 2, a0_, .ref q0_), (14, 16, a0_, .int o_)]) rfl (fun xr_290 fr_290 H locs mxr_290 kxr_290 hp hMr_290 g => ?_) (fun fr_290 H locs hp hMr_290 g => ?_)
                    · have hG_291 := isV.frame hMr_290 go_.2.2.2.1 mq0_ kq0_ (by decide) (by decide) hG_278
                      have hG_292 := FR.frame hMr_290 go_.2.2.2.1 mq0_ kq0_ (by decide) (by decide) hG_279
                      have hG_293 := cEq.frame hMr_290 go_.2.2.2.1 ma0_ ka0_ (by decide) (by decide) hE_280
                      exact hp.elim
                    · have hG_294 := isV.frame hMr_290 go_.2.2.2.1 mq0_ kq0_ (by decide) (by decide) hG_278
                      have hG_295 := FR.frame hMr_290 go_.2.2.2.1 mq0_ kq0_ (by decide) (by decide) hG_279
                      have hG_296 := cEq.frame hMr_290 go_.2.2.2.1 ma0_ ka0_ (by decide) (by decide) hE_280
                      refine lv_aload_n hx hb dX14_readPlace_130 rfl (lv_at hl 3 rfl) ?_
                      refine lv_iconst (v := 2) hx hb dX14_readPlace_131 (by decide) ?_
                      refine lv_iload hx hb dX14_readPlace_132 (lv_at hl 1 rfl) ?_
                      refine lv_iconst (v := (-1)) hx hb dX14_readPlace_134 (by decide) ?_
                      refine lv_iload hx hb dX14_readPlace_135 (lv_at hl 0 rfl) ?_
                      have hnb : (V_251.n 57).toInt ≤ 2499 := by omega
                      have go_ := g
                      refine g_calli (va_runV (As := [.int 2, .int r_245, .int (-1), .int y_286]) (rest := []) ⟨hx, hb, hml, hown, hts⟩ (r_X14_node l dC dI L kd tys fr_290 H.size g.2.2.2.1 a0_ ma0_ ka0_ 2 r_245 (-1) y_286 q0_ mq0_ kq0_ o_ bo_ V_251 hG_294 hnb (g.fcts [4, 5] rfl)) (cwV 4 hts (gV_ t_2480 t_2482 t_117 t_198 t_2483) rfl rfl rfl (by decide +kernel) ⟨(show 0 + 1 ≤ N + 1 + 24 by omega), (show 8 + (6 + 11) + 0 ≤ 60 * (N + 1) + 700 by omega)⟩) (pre3V g hK ma0_ ka0_ (by decide) (q := (RX14, TX14, 67)) rfl) rfl rfl hl.1 rfl (lv_room (Nat.le_of_ble_eq_true rfl)) dX14_readPlace_137 (cl_f hck_266)) g hK (by decide) (by decide) (fx' := [(12, 51, q0_, .ref a_283), (14, 10, a0_, .int x_273), (14, 25, a0_, .int x_275), (12, 8, q0_, .ref a_99), (14, 2, a0_, .ref q0_), (14, 16, a0_, .int o_)]) rfl (fun r_297 fr_297 H locs hp hMr_297 g => ?_)
                      obtain ⟨hx_298, hx_299, h_300, x_301, h_302, hF_303⟩ := hp
                      have hG_304 := cEq.frame hMr_297 go_.2.2.2.1 ma0_ ka0_ (by decide) (by decide) hG_296
                      have hF_305 := FR.call (mds := []) (mas := []) hG_295 go_ mq0_ kq0_ rfl hx_299
                      obtain ⟨V_306, hV_307, hN_308⟩ := hx_298
                      have g := g.more hF_303
                      refine lv_istore (lv' := [(7, .int r_297), (6, .int y_286), (5, .int r_245), (4, .int 1), (0, .ref a0_), (1, .int x1_), (2, .int x2_), (3, .int x3_)]) hx hb dX14_readPlace_140 hl (by decide) rfl (fun ls hl => ?_)
                      refine lv_aload_n hx hb dX14_readPlace_142 rfl (lv_at hl 4 rfl) ?_
                      refine g_getk (C := RX14) (T := TX14) (N := 67) hx hb hts (mc_ inX14) hown hK g rfl 2 (by decide) rfl (hts _ (List.mem_cons_of_mem _ t_2148)) (fun _ h9 => h9) 5 rfl dX14_readPlace_143 ?_
                      refine g_getr (K := 204) (C := RX12) (T := TX12) (N := 60) hx hb hts (mc_ inX12) hown hK g mq0_ kq0_ (by decide) rfl 50 (by decide) rfl (hts _ (List.mem_cons_of_mem _ t_2004)) (fun _ h9 => h9) rfl dX14_readPlace_146 (fun a_309 ma_309 ka_309 g => ?_)
                      refine lv_iload hx hb dX14_readPlace_149 (lv_at hl 0 rfl) ?_
                      refine lv_iload_n hx hb dX14_readPlace_151 rfl (lv_at hl 5 rfl) ?_
                      have gp_310 := g
                      have go_ := g
                      refine g_iastX hx hb hK g ma_309 ka_309 (by decide) rfl (in_bd h_300 (by decide)) (bd_sub b_98 (by decide)) (by decide) dX14_readPlace_152 (fun f H locs hM_311 u_313 g => ?_)
                      have hG_312 := cEq.frame hM_311 go_.2.2.2.1 ma0_ ka0_ (by decide) (by decide) hG_304
                      have hV_314 := isV.ui hV_307 gp_310 0 rfl mq0_ kq0_ rfl u_313
                      have hF_315 := FR.arr hF_305 gp_310 0 rfl mq0_ kq0_ rfl rfl u_313.1
                      have hN_316 := NN.s50 (v := x1_) hN_308 h_300.1
                      refine lv_iload hx hb dX14_readPlace_153 (lv_at hl 0 rfl) ?_
                      have hf_317 : fin V_251 (V_306.ui 50 r_297.toNatClampNeg x1_) r_297 hm_ o_ := nd_place hN_316 h_300.1 hw_257 ⟨(by have h9_0 := bo_; unfold bd at h9_0; have h9_1 := b_243; unfold bd at h9_1; have h9_2 := b_267; unfold bd at h9_2; have h9_3 := h_300; unfold bd at h9_3; have h9_4 := b_242; unfold bd at h9_4; have h9_5 := b_98; unfold bd at h9_5; have h9_6 := b_289; unfold bd at h9_6; have h9_7 := b_202; unfold bd at h9_7; have h9_8 := h_207; unfold bd at h9_8; have h9_9 := h_235; unfold bd at h9_9; have h9_10 := h_237; unfold bd at h9_10; have h9_11 := b_281; unfold bd at h9_11; have h9_12 := h_274; unfold bd at h9_12; have h9_13 := h_276; unfold bd at h9_13; have h9_14 := b_285; unfold bd at h9_14; have h9_15 := h_302; unfold bd at h9_15; have h9_16 := b_101; unfold bd at h9_16; have h9_17 := b_103; unfold bd at h9_17; have h9_18 := b_287; unfold bd at h9_18; have h8_0 := kb_0; unfold bd at h8_0; have h8_1 := kb_1; unfold bd at h8_1; have h8_2 := kb_1000; unfold bd at h8_2; have h8_3 := kb_m1; unfold bd at h8_3; omega), (by have h9_0 := bo_; unfold bd at h9_0; have h9_1 := b_243; unfold bd at h9_1; have h9_2 := b_267; unfold bd at h9_2; have h9_3 := h_300; unfold bd at h9_3; have h9_4 := b_242; unfold bd at h9_4; have h9_5 := b_98; unfold bd at h9_5; have h9_6 := b_289; unfold bd at h9_6; have h9_7 := b_202; unfold bd at h9_7; have h9_8 := h_207; unfold bd at h9_8; have h9_9 := h_235; unfold bd at h9_9; have h9_10 := h_237; unfold bd at h9_10; have h9_11 := b_281; unfold bd at h9_11; have h9_12 := h_274; unfold bd at h9_12; have h9_13 := h_276; unfold bd at h9_13; have h9_14 := b_285; unfold bd at h9_14; have h9_15 := h_302; unfold bd at h9_15; have h9_16 := b_101; unfold bd at h9_16; have h9_17 := b_103; unfold bd at h9_17; have h9_18 := b_287; unfold bd at h9_18; have h8_0 := kb_0; unfold bd at h8_0; have h8_1 := kb_1; unfold bd at h8_1; have h8_2 := kb_1000; unfold bd at h8_2; have h8_3 := kb_m1; unfold bd at h8_3; omega)⟩ (by have h9_0 := bo_; unfold bd at h9_0; have h9_1 := b_243; unfold bd at h9_1; have h9_2 := b_267; unfold bd at h9_2; have h9_3 := h_300; unfold bd at h9_3; have h9_4 := b_242; unfold bd at h9_4; have h9_5 := b_98; unfold bd at h9_5; have h9_6 := b_289; unfold bd at h9_6; have h9_7 := b_202; unfold bd at h9_7; have h9_8 := h_207; unfold bd at h9_8; have h9_9 := h_235; unfold bd at h9_9; have h9_10 := h_237; unfold bd at h9_10; have h9_11 := b_281; unfold bd at h9_11; have h9_12 := h_274; unfold bd at h9_12; have h9_13 := h_276; unfold bd at h9_13; have h9_14 := b_285; unfold bd at h9_14; have h9_15 := h_302; unfold bd at h9_15; have h9_16 := b_101; unfold bd at h9_16; have h9_17 := b_103; unfold bd at h9_17; have h9_18 := b_287; unfold bd at h9_18; have h8_0 := kb_0; unfold bd at h8_0; have h8_1 := kb_1; unfold bd at h8_1; have h8_2 := kb_1000; unfold bd at h8_2; have h8_3 := kb_m1; unfold bd at h8_3; omega) (by rw [hx_264.2.2.1 0 (by decide)]; exact ho) (by decide) hv_265 (Or.inr ⟨_, EV.at_ hv_258 vx_284, (by have h9_0 := bo_; unfold bd at h9_0; have h9_1 := b_243; unfold bd at h9_1; have h9_2 := b_267; unfold bd at h9_2; have h9_3 := h_300; unfold bd at h9_3; have h9_4 := b_242; unfold bd at h9_4; have h9_5 := b_98; unfold bd at h9_5; have h9_6 := b_289; unfold bd at h9_6; have h9_7 := b_202; unfold bd at h9_7; have h9_8 := h_207; unfold bd at h9_8; have h9_9 := h_235; unfold bd at h9_9; have h9_10 := h_237; unfold bd at h9_10; have h9_11 := b_281; unfold bd at h9_11; have h9_12 := h_274; unfold bd at h9_12; have h9_13 := h_276; unfold bd at h9_13; have h9_14 := b_285; unfold bd at h9_14; have h9_15 := h_302; unfold bd at h9_15; have h9_16 := b_101; unfold bd at h9_16; have h9_17 := b_103; unfold bd at h9_17; have h9_18 := b_287; unfold bd at h9_18; have h8_0 := kb_0; unfold bd at h8_0; have h8_1 := kb_1; unfold bd at h8_1; have h8_2 := kb_1000; unfold bd at h8_2; have h8_3 := kb_m1; unfold bd at h8_3; omega)⟩)
                      have ho_321 : ((V_306.ui 50 r_297.toNatClampNeg x1_).i 47 r_297.toNatClampNeg).toInt = 2 := (congrArg Int32.toInt (hN_316).2.2.2.1).trans (by decide)
                      obtain ⟨V_318, hV_319, hf_320, ho_321⟩ : ∃ V1 : PV, isV f q0_ V1 ∧ fin V_251 V1 r_297 hm_ o_ ∧ (V1.i 47 r_297.toNatClampNeg).toInt = 2 := ⟨_, hV_314, hf_317, ho_321⟩
                      have hf_320n := hf_320.2.2.2
                      have hx_322 := exN.tr hx_264 hf_320.1
                      have he_323 := exN.ev hf_320.1 hv_258
                      have hv_324 := exN.var hf_320.1 hv_265
                      obtain rfl : op_ = x_275 := Int32.toInt_inj.mp (by have h9_0 := bo_; unfold bd at h9_0; have h9_1 := b_243; unfold bd at h9_1; have h9_2 := b_267; unfold bd at h9_2; have h9_3 := h_300; unfold bd at h9_3; have h9_4 := b_242; unfold bd at h9_4; have h9_5 := b_98; unfold bd at h9_5; have h9_6 := b_289; unfold bd at h9_6; have h9_7 := b_202; unfold bd at h9_7; have h9_8 := h_207; unfold bd at h9_8; have h9_9 := h_235; unfold bd at h9_9; have h9_10 := h_237; unfold bd at h9_10; have h9_11 := b_281; unfold bd at h9_11; have h9_12 := h_274; unfold bd at h9_12; have h9_13 := h_276; unfold bd at h9_13; have h9_14 := b_285; unfold bd at h9_14; have h9_15 := h_302; unfold bd at h9_15; have h9_16 := b_101; unfold bd at h9_16; have h9_17 := b_103; unfold bd at h9_17; have h9_18 := b_287; unfold bd at h9_18; have h8_0 := kb_0; unfold bd at h8_0; have h8_1 := kb_1; unfold bd at h8_1; have h8_2 := kb_1000; unfold bd at h8_2; have h8_3 := kb_m1; unfold bd at h8_3; omega)
                      have h9c : cF f a0_ = _ := hG_312
                      subst hQ
                      exact iretX (v := r_297) hx hb hr (fun t ht hW => g_retZ g hK ⟨_, rfl, ⟨⟨_, hV_319, hF_315, hx_322, hf_320.2.1, hf_320.2.2.1, ho_321, (by omega), (by omega), (by omega)⟩, x_273, h_274, (g.fcts [4, 3] rfl)⟩⟩ ht hW) g.2.2.1.2.2 dX14_readPlace_155 hlocks
                  · have fc_288 := neq_f c_288
                    have b_325 : bd 1 1 x3_ := neX fc_288 bx3_ kb_0 (by decide)
                    refine lv_iload hx hb dX14_readPlace_112 (lv_at hl 0 rfl) ?_
                    refine lv_bipush (v := 12) hx hb dX14_readPlace_114 (by decide) ?_
                    have kb_12 : bd 12 12 (12 : Int32) := ⟨by decide, by decide⟩
                    refine lv_icmp_gt (tgt := 123) hx hb dX14_readPlace_116 (by decide) (fun c_326 => ?_) (fun c_326 => ?_)
                    · have fc_326 := lt_f c_326
                      have b_327 : bd 13 13 y_286 := ltR fc_326 kb_12 b_287 (by decide)
                      refine lv_iconst (v := 0) hx hb dX14_readPlace_123 (by decide) ?_
                      refine lv_bipush (v := 7) hx hb dX14_readPlace_124 (by decide) ?_
                      refine lv_iload_n hx hb dX14_readPlace_126 rfl (lv_at hl 5 rfl) ?_
                      have go_ := g
                      refine g_callEv (As := [.int 0, .int 7, .int x2_]) (rest := []) ⟨hx, hb, hml, hown, hts⟩ (r_X14_need_2 l dC dI L kd tys fr_268 H.size g.2.2.2.1 a0_ ma0_ ka0_ 0 kb_0 7 x2_) (cwV 3 hts (gV_ t_2403 t_2405 t_100 t_198 t_2406) rfl rfl rfl (by decide +kernel) ⟨(show 1 + 1 ≤ N + 1 + 24 by omega), (show 8 + (4 + 11) + 22 ≤ 60 * (N + 1) + 700 by omega)⟩) (pre3V g hK ma0_ ka0_ (by decide) (q := (RX14, TX14, 67)) rfl) rfl hl.1 rfl (lv_room (Nat.le_of_ble_eq_true rfl)) dX14_readPlace_127 (cl_f hck_266) g hK (by decide) (by decide) (fx' := [(12, 51, q0_, .ref a_283), (14, 10, a0_, .int x_273), (14, 25, a0_, .int x_275), (12, 8, q0_, .ref a_99), (14, 2, a0_, .ref q0_), (14, 16, a0_, .int o_)]) rfl (fun xr_328 fr_328 H locs mxr_328 kxr_328 hp hMr_328 g => ?_) (fun fr_328 H locs hp hMr_328 g => ?_)
                      · have hG_329 := isV.frame hMr_328 go_.2.2.2.1 mq0_ kq0_ (by decide) (by decide) hG_278
                        have hG_330 := FR.frame hMr_328 go_.2.2.2.1 mq0_ kq0_ (by decide) (by decide) hG_279
                        have hG_331 := cEq.frame hMr_328 go_.2.2.2.1 ma0_ ka0_ (by decide) (by decide) hE_280
                        subst hQ
                        exact leavesX hempty hlocks (fun t ht hW => g_thrZ g hK mxr_328 kxr_328 ⟨hG_330, (by omega)⟩ ht hW) g.2.2.1.2.2
                      · exact hp.elim
                    · have fc_326 := nlt_f c_326
                      have b_332 : bd 2 12 y_286 := leL fc_326 b_287 kb_12 (by decide)
                      refine lv_iconst (v := 1) hx hb dX14_readPlace_119 (by decide) ?_
                      refine lv_goto (tgt := 124) hx hb dX14_readPlace_120 (by decide) ?_
                      refine lv_bipush (v := 7) hx hb dX14_readPlace_124 (by decide) ?_
                      refine lv_iload_n hx hb dX14_readPlace_126 rfl (lv_at hl 5 rfl) ?_
                      have go_ := g
                      refine g_callEv (As := [.int 1, .int 7, .int x2_]) (rest := []) ⟨hx, hb, hml, hown, hts⟩ (r_X14_need_3 l dC dI L kd tys fr_268 H.size g.2.2.2.1 a0_ ma0_ ka0_ 1 kb_1 7 x2_) (cwV 3 hts (gV_ t_2403 t_2405 t_100 t_198 t_2406) rfl rfl rfl (by decide +kernel) ⟨(show 0 + 1 ≤ N + 1 + 24 by omega), (show 8 + (4 + 11) + 0 ≤ 60 * (N + 1) + 700 by omega)⟩) (pre3V g hK ma0_ ka0_ (by decide) (q := (RX14, TX14, 67)) rfl) rfl hl.1 rfl (lv_room (Nat.le_of_ble_eq_true rfl)) dX14_readPlace_127 (cl_f hck_266) g hK (by decide) (by decide) (fx' := [(12, 51, q0_, .ref a_283), (14, 10, a0_, .int x_273), (14, 25, a0_, .int x_275), (12, 8, q0_, .ref a_99), (14, 2, a0_, .ref q0_), (14, 16, a0_, .int o_)]) rfl (fun xr_333 fr_333 H locs mxr_333 kxr_333 hp hMr_333 g => ?_) (fun fr_333 H locs hp hMr_333 g => ?_)
                      · have hG_334 := isV.frame hMr_333 go_.2.2.2.1 mq0_ kq0_ (by decide) (by decide) hG_278
                        have hG_335 := FR.frame hMr_333 go_.2.2.2.1 mq0_ kq0_ (by decide) (by decide) hG_279
                        have hG_336 := cEq.frame hMr_333 go_.2.2.2.1 ma0_ ka0_ (by decide) (by decide) hE_280
                        exact hp.elim
                      · have hG_337 := isV.frame hMr_333 go_.2.2.2.1 mq0_ kq0_ (by decide) (by decide) hG_278
                        have hG_338 := FR.frame hMr_333 go_.2.2.2.1 mq0_ kq0_ (by decide) (by decide) hG_279
                        have hG_339 := cEq.frame hMr_333 go_.2.2.2.1 ma0_ ka0_ (by decide) (by decide) hE_280
                        refine lv_aload_n hx hb dX14_readPlace_130 rfl (lv_at hl 3 rfl) ?_
                        refine lv_iconst (v := 2) hx hb dX14_readPlace_131 (by decide) ?_
                        refine lv_iload hx hb dX14_readPlace_132 (lv_at hl 1 rfl) ?_
                        refine lv_iconst (v := (-1)) hx hb dX14_readPlace_134 (by decide) ?_
                        refine lv_iload hx hb dX14_readPlace_135 (lv_at hl 0 rfl) ?_
                        have hnb : (V_251.n 57).toInt ≤ 2499 := by omega
                        have go_ := g
                        refine g_calli (va_runV (As := [.int 2, .int r_245, .int (-1), .int y_286]) (rest := []) ⟨hx, hb, hml, hown, hts⟩ (r_X14_node l dC dI L kd tys fr_333 H.size g.2.2.2.1 a0_ ma0_ ka0_ 2 r_245 (-1) y_286 q0_ mq0_ kq0_ o_ bo_ V_251 hG_337 hnb (g.fcts [4, 5] rfl)) (cwV 4 hts (gV_ t_2480 t_2482 t_117 t_198 t_2483) rfl rfl rfl (by decide +kernel) ⟨(show 0 + 1 ≤ N + 1 + 24 by omega), (show 8 + (6 + 11) + 0 ≤ 60 * (N + 1) + 700 by omega)⟩) (pre3V g hK ma0_ ka0_ (by decide) (q := (RX14, TX14, 67)) rfl) rfl rfl hl.1 rfl (lv_room (Nat.le_of_ble_eq_true rfl)) dX14_readPlace_137 (cl_f hck_266)) g hK (by decide) (by decide) (fx' := [(12, 51, q0_, .ref a_283), (14, 10, a0_, .int x_273), (14, 25, a0_, .int x_275), (12, 8, q0_, .ref a_99), (14, 2, a0_, .ref q0_), (14, 16, a0_, .int o_)]) rfl (fun r_340 fr_340 H locs hp hMr_340 g => ?_)
                        obtain ⟨hx_341, hx_342, h_343, x_344, h_345, hF_346⟩ := hp
                        have hG_347 := cEq.frame hMr_340 go_.2.2.2.1 ma0_ ka0_ (by decide) (by decide) hG_339
                        have hF_348 := FR.call (mds := []) (mas := []) hG_338 go_ mq0_ kq0_ rfl hx_342
                        obtain ⟨V_349, hV_350, hN_351⟩ := hx_341
                        have g := g.more hF_346
                        refine lv_istore (lv' := [(7, .int r_340), (6, .int y_286), (5, .int r_245), (4, .int 1), (0, .ref a0_), (1, .int x1_), (2, .int x2_), (3, .int x3_)]) hx hb dX14_readPlace_140 hl (by decide) rfl (fun ls hl => ?_)
                        refine lv_aload_n hx hb dX14_readPlace_142 rfl (lv_at hl 4 rfl) ?_
                        refine g_getk (C := RX14) (T := TX14) (N := 67) hx hb hts (mc_ inX14) hown hK g rfl 2 (by decide) rfl (hts _ (List.mem_cons_of_mem _ t_2148)) (fun _ h9 => h9) 5 rfl dX14_readPlace_143 ?_
                        refine g_getr (K := 204) (C := RX12) (T := TX12) (N := 60) hx hb hts (mc_ inX12) hown hK g mq0_ kq0_ (by decide) rfl 50 (by decide) rfl (hts _ (List.mem_cons_of_mem _ t_2004)) (fun _ h9 => h9) rfl dX14_readPlace_146 (fun a_352 ma_352 ka_352 g => ?_)
                        refine lv_iload hx hb dX14_readPlace_149 (lv_at hl 0 rfl) ?_
                        refine lv_iload_n hx hb dX14_readPlace_151 rfl (lv_at hl 5 rfl) ?_
                        have gp_353 := g
                        have go_ := g
                        refine g_iastX hx hb hK g ma_352 ka_352 (by decide) rfl (in_bd h_343 (by decide)) (bd_sub b_98 (by decide)) (by decide) dX14_readPlace_152 (fun f H locs hM_354 u_356 g => ?_)
                        have hG_355 := cEq.frame hM_354 go_.2.2.2.1 ma0_ ka0_ (by decide) (by decide) hG_347
                        have hV_357 := isV.ui hV_350 gp_353 0 rfl mq0_ kq0_ rfl u_356
                        have hF_358 := FR.arr hF_348 gp_353 0 rfl mq0_ kq0_ rfl rfl u_356.1
                        have hN_359 := NN.s50 (v := x1_) hN_351 h_343.1
                        refine lv_iload hx hb dX14_readPlace_153 (lv_at hl 0 rfl) ?_
                        have hf_360 : fin V_251 (V_349.ui 50 r_340.toNatClampNeg x1_) r_340 hm_ o_ := nd_place hN_359 h_343.1 hw_257 ⟨(by have h9_0 := bo_; unfold bd at h9_0; have h9_1 := b_243; unfold bd at h9_1; have h9_2 := b_267; unfold bd at h9_2; have h9_3 := h_343; unfold bd at h9_3; have h9_4 := b_242; unfold bd at h9_4; have h9_5 := b_98; unfold bd at h9_5; have h9_6 := b_325; unfold bd at h9_6; have h9_7 := b_202; unfold bd at h9_7; have h9_8 := h_207; unfold bd at h9_8; have h9_9 := h_235; unfold bd at h9_9; have h9_10 := h_237; unfold bd at h9_10; have h9_11 := b_281; unfold bd at h9_11; have h9_12 := h_274; unfold bd at h9_12; have h9_13 := h_276; unfold bd at h9_13; have h9_14 := b_285; unfold bd at h9_14; have h9_15 := h_345; unfold bd at h9_15; have h9_16 := b_101; unfold bd at h9_16; have h9_17 := b_103; unfold bd at h9_17; have h9_18 := b_332; unfold bd at h9_18; have h8_0 := kb_0; unfold bd at h8_0; have h8_1 := kb_1; unfold bd at h8_1; have h8_2 := kb_1000; unfold bd at h8_2; have h8_3 := kb_12; unfold bd at h8_3; have h8_4 := kb_m1; unfold bd at h8_4; omega), (by have h9_0 := bo_; unfold bd at h9_0; have h9_1 := b_243; unfold bd at h9_1; have h9_2 := b_267; unfold bd at h9_2; have h9_3 := h_343; unfold bd at h9_3; have h9_4 := b_242; unfold bd at h9_4; have h9_5 := b_98; unfold bd at h9_5; have h9_6 := b_325; unfold bd at h9_6; have h9_7 := b_202; unfold bd at h9_7; have h9_8 := h_207; unfold bd at h9_8; have h9_9 := h_235; unfold bd at h9_9; have h9_10 := h_237; unfold bd at h9_10; have h9_11 := b_281; unfold bd at h9_11; have h9_12 := h_274; unfold bd at h9_12; have h9_13 := h_276; unfold bd at h9_13; have h9_14 := b_285; unfold bd at h9_14; have h9_15 := h_345; unfold bd at h9_15; have h9_16 := b_101; unfold bd at h9_16; have h9_17 := b_103; unfold bd at h9_17; have h9_18 := b_332; unfold bd at h9_18; have h8_0 := kb_0; unfold bd at h8_0; have h8_1 := kb_1; unfold bd at h8_1; have h8_2 := kb_1000; unfold bd at h8_2; have h8_3 := kb_12; unfold bd at h8_3; have h8_4 := kb_m1; unfold bd at h8_4; omega)⟩ (by have h9_0 := bo_; unfold bd at h9_0; have h9_1 := b_243; unfold bd at h9_1; have h9_2 := b_267; unfold bd at h9_2; have h9_3 := h_343; unfold bd at h9_3; have h9_4 := b_242; unfold bd at h9_4; have h9_5 := b_98; unfold bd at h9_5; have h9_6 := b_325; unfold bd at h9_6; have h9_7 := b_202; unfold bd at h9_7; have h9_8 := h_207; unfold bd at h9_8; have h9_9 := h_235; unfold bd at h9_9; have h9_10 := h_237; unfold bd at h9_10; have h9_11 := b_281; unfold bd at h9_11; have h9_12 := h_274; unfold bd at h9_12; have h9_13 := h_276; unfold bd at h9_13; have h9_14 := b_285; unfold bd at h9_14; have h9_15 := h_345; unfold bd at h9_15; have h9_16 := b_101; unfold bd at h9_16; have h9_17 := b_103; unfold bd at h9_17; have h9_18 := b_332; unfold bd at h9_18; have h8_0 := kb_0; unfold bd at h8_0; have h8_1 := kb_1; unfold bd at h8_1; have h8_2 := kb_1000; unfold bd at h8_2; have h8_3 := kb_12; unfold bd at h8_3; have h8_4 := kb_m1; unfold bd at h8_4; omega) (by rw [hx_264.2.2.1 0 (by decide)]; exact ho) (by decide) hv_265 (Or.inr ⟨_, EV.at_ hv_258 vx_284, (by have h9_0 := bo_; unfold bd at h9_0; have h9_1 := b_243; unfold bd at h9_1; have h9_2 := b_267; unfold bd at h9_2; have h9_3 := h_343; unfold bd at h9_3; have h9_4 := b_242; unfold bd at h9_4; have h9_5 := b_98; unfold bd at h9_5; have h9_6 := b_325; unfold bd at h9_6; have h9_7 := b_202; unfold bd at h9_7; have h9_8 := h_207; unfold bd at h9_8; have h9_9 := h_235; unfold bd at h9_9; have h9_10 := h_237; unfold bd at h9_10; have h9_11 := b_281; unfold bd at h9_11; have h9_12 := h_274; unfold bd at h9_12; have h9_13 := h_276; unfold bd at h9_13; have h9_14 := b_285; unfold bd at h9_14; have h9_15 := h_345; unfold bd at h9_15; have h9_16 := b_101; unfold bd at h9_16; have h9_17 := b_103; unfold bd at h9_17; have h9_18 := b_332; unfold bd at h9_18; have h8_0 := kb_0; unfold bd at h8_0; have h8_1 := kb_1; unfold bd at h8_1; have h8_2 := kb_1000; unfold bd at h8_2; have h8_3 := kb_12; unfold bd at h8_3; have h8_4 := kb_m1; unfold bd at h8_4; omega)⟩)
                        have ho_364 : ((V_349.ui 50 r_340.toNatClampNeg x1_).i 47 r_340.toNatClampNeg).toInt = 2 := (congrArg Int32.toInt (hN_359).2.2.2.1).trans (by decide)
                        obtain ⟨V_361, hV_362, hf_363, ho_364⟩ : ∃ V1 : PV, isV f q0_ V1 ∧ fin V_251 V1 r_340 hm_ o_ ∧ (V1.i 47 r_340.toNatClampNeg).toInt = 2 := ⟨_, hV_357, hf_360, ho_364⟩
                        have hf_363n := hf_363.2.2.2
                        have hx_365 := exN.tr hx_264 hf_363.1
                        have he_366 := exN.ev hf_363.1 hv_258
                        have hv_367 := exN.var hf_363.1 hv_265
                        obtain rfl : op_ = x_275 := Int32.toInt_inj.mp (by have h9_0 := bo_; unfold bd at h9_0; have h9_1 := b_243; unfold bd at h9_1; have h9_2 := b_267; unfold bd at h9_2; have h9_3 := h_343; unfold bd at h9_3; have h9_4 := b_242; unfold bd at h9_4; have h9_5 := b_98; unfold bd at h9_5; have h9_6 := b_325; unfold bd at h9_6; have h9_7 := b_202; unfold bd at h9_7; have h9_8 := h_207; unfold bd at h9_8; have h9_9 := h_235; unfold bd at h9_9; have h9_10 := h_237; unfold bd at h9_10; have h9_11 := b_281; unfold bd at h9_11; have h9_12 := h_274; unfold bd at h9_12; have h9_13 := h_276; unfold bd at h9_13; have h9_14 := b_285; unfold bd at h9_14; have h9_15 := h_345; unfold bd at h9_15; have h9_16 := b_101; unfold bd at h9_16; have h9_17 := b_103; unfold bd at h9_17; have h9_18 := b_332; unfold bd at h9_18; have h8_0 := kb_0; unfold bd at h8_0; have h8_1 := kb_1; unfold bd at h8_1; have h8_2 := kb_1000; unfold bd at h8_2; have h8_3 := kb_12; unfold bd at h8_3; have h8_4 := kb_m1; unfold bd at h8_4; omega)
                        have h9c : cF f a0_ = _ := hG_355
                        subst hQ
                        exact iretX (v := r_340) hx hb hr (fun t ht hW => g_retZ g hK ⟨_, rfl, ⟨⟨_, hV_362, hF_358, hx_365, hf_363.2.1, hf_363.2.2.1, ho_364, (by omega), (by omega), (by omega)⟩, x_273, h_274, (g.fcts [4, 3] rfl)⟩⟩ ht hW) g.2.2.1.2.2 dX14_readPlace_155 hlocks
                · have fc_282 := eq_f c_282
                  have b_368 : bd 0 (-1) r_245 := eqX fc_282 b_267 kb_m1 (by decide)
                  exact bd_no b_368 (by decide)
