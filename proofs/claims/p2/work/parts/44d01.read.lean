set_option maxHeartbeats 4000000 in
set_option maxRecDepth 100000 in
theorem r_X14_readUnary (N : Nat) (ih : RecR N) (l : Launch) (dC : Nat → ClassId) (dI : Nat → Nat → Nat) (L : List Nat) (kd : Nat → Nat) (tys : List (ClassId × FieldType)) (f0 : Nat → va_E) (sz : Nat) (hWT : WT L kd tys f0) (adK adV : Nat → Nat) (a0_ : Nat) (ma0_ : a0_ ∈ L) (ka0_ : kd a0_ = 14) (q0_ : Nat) (mq0_ : q0_ ∈ L) (kq0_ : kd q0_ = 12) (V_ : PV) (o_ : Int32) (bo_ : bd 0 7 o_) (op_ : Int32) (bop_ : bd 0 40 op_) (t_ : Int32) (bt_ : bd 0 1201 t_) (hV : isV f0 q0_ V_) (hwf : wfN V_ (V_.n 57).toInt) (ho : (o_.toNatClampNeg : Int) < (V_.n 0).toInt) (hnn : (V_.n 57).toInt ≤ cF f0 a0_) (K_ : Nat) (hK_ : 1204 ≤ 2 * (K_ : Int) + cF f0 a0_) (hN : 11 * (40 - op_.toInt) + 4 ≤ ((N + 1 : Nat) : Int)) (hfx : Fs L kd f0 [(14, 2, a0_, .ref q0_), (14, 16, a0_, .int o_), (14, 25, a0_, .int op_), (14, 10, a0_, .int t_)]) : MetX l yX14_readUnary (.code yX14_readUnary cX14_readUnary 4 (some .int) :: lw_g) ({ frames := (N + 1) + 24, cells := K_, slots := 3 * K_, locals := 60 * (N + 1) + 700 }) (va_Pc [.ref a0_] (P3A (dC, dI) L tys f0 sz adK adV)) (q3X (dC, dI) L kd tys [(12, 57), (12, 58), (14, 6), (14, 7), (14, 8), (14, 9), (14, 10), (14, 11), (14, 12), (14, 13), (14, 14), (14, 15), (14, 25)] [180, 201, 202, 203, 204, 205, 206, 207, 208, 209, 210] f0 sz (pXi (fun (r : Int32) (f : Nat → va_E) (k : Nat) => (rdP L kd f0 a0_ q0_ V_ o_ (12) 0 r f k (fun _ => True)) ∧ ∃ z1_ : Int32, bd 0 1201 z1_ ∧ Fs L kd f [(14, 25, a0_, .int op_), (14, 10, a0_, .int z1_)])) (fun k : Nat => 2 * (k : Int) + cF f0 a0_ ≤ 1203)) (pA L sz) := by
  refine MetX.ofW (cc := cX14_readUnary) (maxL := 4) (ret := (some .int)) (by decide) rfl ?_
  intro p e s m args below meth c s₁ B hml hempty hv
  obtain ⟨rfl, ⟨hsz, hP, hK, hD0⟩, hAm⟩ := hv
  have hx := B.exec
  have hb := B.bytes
  have hr := B.returns
  have hts := atoms_spec (ws := (.code yX14_readUnary cX14_readUnary 4 (some .int) :: lw_g)) B.pre
  have hown : s.vm.findClass RX14 = some m.cls := findClass_of_methodNamed B.named
  have hlocks := B.notSynchronized
  subst hsz
  have g : G3 (dC, dI) L kd tys s f0 [(12, 57), (12, 58), (14, 6), (14, 7), (14, 8), (14, 9), (14, 10), (14, 11), (14, 12), (14, 13), (14, 14), (14, 15), (14, 25)] [180, 201, 202, 203, 204, 205, 206, 207, 208, 209, 210] f0 s.heap [] [(14, 2, a0_, .ref q0_), (14, 16, a0_, .int o_), (14, 25, a0_, .int op_), (14, 10, a0_, .int t_)] := G3.start hP hD0 hWT hfx
  have hl := lv_entry ([.ref a0_]) (n := 4) (Nat.le_of_ble_eq_true rfl)
  rw [lg_entry_eq]
  generalize (lg_sl ([.ref a0_]) ++ List.replicate (4 - (lg_sl ([.ref a0_])).length) Slot.unset).toArray = ls at hl ⊢
  have hl : lv_has ls 4 [(0, .ref a0_)] := hl
  refine W_q (fun Q hQ => ?_)
  refine W_c0 (fun cl_0 hc_0 => ?_)
  have hck_0 : cl_0 ≤ K_ := by omega
  have hC_0 : cEq f0 a0_ (cF f0 a0_) := rfl
  have hm_0 : cF f0 a0_ ≤ 1202 := cF_le g ma0_ ka0_
  have hm_1 : -1 ≤ cF f0 a0_ := cF_ge g ma0_ ka0_
  refine lv_aload_n hx hb dX14_readUnary_0 rfl (lv_at hl 0 rfl) ?_
  refine lv_bipush (v := 45) hx hb dX14_readUnary_1 (by decide) ?_
  have go_ := g
  refine g_calli (va_runV (As := [.int 45]) (rest := []) ⟨hx, hb, hml, hown, hts⟩ (r_X14_isSign l dC dI L kd tys f0 s.heap.size g.2.2.2.1 a0_ ma0_ ka0_ 45) (cwV 1 hts (gV_ t_2435 t_2437 t_108 t_198 t_2438) rfl rfl rfl (by decide +kernel) ⟨(show 0 + 1 ≤ N + 1 + 24 by omega), (show 8 + (2 + 11) + 0 ≤ 60 * (N + 1) + 700 by omega)⟩) (pre3V g hK ma0_ ka0_ (by decide) (q := (RX14, TX14, 67)) rfl) rfl rfl hl.1 rfl (lv_room (Nat.le_of_ble_eq_true rfl)) dX14_readUnary_3 (cl_f hck_0)) g hK (by decide) (by decide) (fx' := [(14, 2, a0_, .ref q0_), (14, 16, a0_, .int o_), (14, 25, a0_, .int op_), (14, 10, a0_, .int t_)]) rfl (fun r_1 fr_1 H locs hp hMr_1 g => ?_)
  rcases hp with ⟨h_2, -⟩ | ⟨h_3, x_4, h_5, hF_6⟩
  · have hG_7 := isV.frame hMr_1 go_.2.2.2.1 mq0_ kq0_ (by decide) (by decide) hV
    have hG_8 := FR.frame hMr_1 go_.2.2.2.1 mq0_ kq0_ (by decide) (by decide) FR.refl
    have hG_9 := cEq.frame hMr_1 go_.2.2.2.1 ma0_ ka0_ (by decide) (by decide) hC_0
    obtain rfl : r_1 = 0 := h_2
    refine lv_if_ne (tgt := 23) hx hb dX14_readUnary_6 (by decide) (fun c_ => absurd c_ (by decide)) (fun c_ => ?_)
    refine lv_aload_n hx hb dX14_readUnary_9 rfl (lv_at hl 0 rfl) ?_
    refine lv_bipush (v := 33) hx hb dX14_readUnary_10 (by decide) ?_
    have go_ := g
    refine g_calli (va_runV (As := [.int 33]) (rest := []) ⟨hx, hb, hml, hown, hts⟩ (r_X14_isSign l dC dI L kd tys fr_1 H.size g.2.2.2.1 a0_ ma0_ ka0_ 33) (cwV 1 hts (gV_ t_2435 t_2437 t_108 t_198 t_2438) rfl rfl rfl (by decide +kernel) ⟨(show 0 + 1 ≤ N + 1 + 24 by omega), (show 8 + (2 + 11) + 0 ≤ 60 * (N + 1) + 700 by omega)⟩) (pre3V g hK ma0_ ka0_ (by decide) (q := (RX14, TX14, 67)) rfl) rfl rfl hl.1 rfl (lv_room (Nat.le_of_ble_eq_true rfl)) dX14_readUnary_12 (cl_f hck_0)) g hK (by decide) (by decide) (fx' := [(14, 2, a0_, .ref q0_), (14, 16, a0_, .int o_), (14, 25, a0_, .int op_), (14, 10, a0_, .int t_)]) rfl (fun r_10 fr_10 H locs hp hMr_10 g => ?_)
    rcases hp with ⟨h_11, -⟩ | ⟨h_12, x_13, h_14, hF_15⟩
    · have hG_16 := isV.frame hMr_10 go_.2.2.2.1 mq0_ kq0_ (by decide) (by decide) hG_7
      have hG_17 := FR.frame hMr_10 go_.2.2.2.1 mq0_ kq0_ (by decide) (by decide) hG_8
      have hG_18 := cEq.frame hMr_10 go_.2.2.2.1 ma0_ ka0_ (by decide) (by decide) hG_9
      obtain rfl : r_10 = 0 := h_11
      refine lv_if_ne (tgt := 23) hx hb dX14_readUnary_15 (by decide) (fun c_ => absurd c_ (by decide)) (fun c_ => ?_)
      refine lv_aload_n hx hb dX14_readUnary_18 rfl (lv_at hl 0 rfl) ?_
      have qc__19 : cF fr_10 a0_ = _ := hG_18
      have go_ := g
      refine g_callXi (As := []) (rest := []) ⟨hx, hb, hml, hown, hts⟩ (ih.2.2.1 l dC dI L kd tys fr_10 H.size g.2.2.2.1 adK adV a0_ ma0_ ka0_ q0_ mq0_ kq0_ V_ o_ bo_ op_ bop_ t_ bt_ hG_16 hwf ho (by omega) (K_ - cl_0) (by omega) (by have h9_0 := bo_; unfold bd at h9_0; have h9_1 := bop_; unfold bd at h9_1; have h9_2 := bt_; unfold bd at h9_2; omega) (g.fcts [0, 1, 2, 3] rfl)) (cwV 0 hts (gV_ t_2472 t_2474 t_115 t_198 t_2475) rfl rfl rfl (by decide +kernel) ⟨(show N + 24 + 1 ≤ N + 1 + 24 by omega), (show 8 + (5 + 11) + (60 * N + 700) ≤ 60 * (N + 1) + 700 by omega)⟩) (pre3VA g hK hAm ma0_ ka0_ (by decide) (q := (RX14, TX14, 67)) rfl) rfl hl.1 rfl (lv_room (Nat.le_of_ble_eq_true rfl)) dX14_readUnary_19 (cl_k (K := K_) (k := K_ - cl_0) (show cl_0 + (K_ - cl_0) ≤ K_ by omega)) g hK (by decide) (by decide) (fx' := [(14, 2, a0_, .ref q0_), (14, 16, a0_, .int o_)]) rfl (fun xr_20 fr_20 H locs kr_20 cr_20 ecr_20 mxr_20 kxr_20 hp hMr_20 g => ?_) (fun r_20 fr_20 H locs kr_20 cr_20 ecr_20 hp hMr_20 g => ?_)
      · subst hQ
        exact leavesX hempty hlocks (fun t ht hW => g_thrX g hK mxr_20 kxr_20 (by omega) ht hW) g.2.2.1.2.2
      · obtain ⟨hx_21, x_22, h_23, hF_24⟩ := hp
        obtain ⟨V_25, E_26, hV_27, hF_28, hE_29, hX_30, hw_31, hv_32, hP_33, hn_34, hk_35, hc_36⟩ := rd_use hx_21 hG_18
        have hF_37 := FR.call (mds := []) (mas := []) hG_17 go_ mq0_ kq0_ rfl hF_28
        have mxE_26 : E_26 ≤ 1202 := by have h9 := cF_le g ma0_ ka0_; have h8 : cF _ _ = _ := hE_29; omega
        have hx_38 := exN.tr exN.rf hX_30
        have hck_39 : cr_20 ≤ K_ := by omega
        have b_40 : bd 0 2499 r_20 := ⟨hv_32.1, (by have h9 := hv_32.2.1; omega)⟩
        have g := g.more hF_24
        have h9c : cF fr_20 a0_ = _ := hE_29
        subst hQ
        exact iretX (v := r_20) hx hb hr (fun t ht hW => g_retX g hK ⟨_, rfl, ⟨⟨_, hV_27, hF_37, hx_38, hw_31, hv_32, trivial, (by omega), (by omega), (by omega)⟩, x_22, h_23, (g.fcts [0, 1] rfl)⟩⟩ ht hW) g.2.2.1.2.2 dX14_readUnary_22 hlocks
    · have hG_41 := isV.frame hMr_10 go_.2.2.2.1 mq0_ kq0_ (by decide) (by decide) hG_7
      have hG_42 := FR.frame hMr_10 go_.2.2.2.1 mq0_ kq0_ (by decide) (by decide) hG_8
      have hG_43 := cEq.frame hMr_10 go_.2.2.2.1 ma0_ ka0_ (by decide) (by decide) hG_9
      obtain rfl : r_10 = 1 := h_12
      have g := g.more hF_15
      refine lv_if_ne (tgt := 23) hx hb dX14_readUnary_15 (by decide) (fun c_ => ?_) (fun c_ => absurd c_ (by decide))
      refine lv_aload_n hx hb dX14_readUnary_23 rfl (lv_at hl 0 rfl) ?_
      have hs_44 := sE_1 g 0 rfl (by have h9_0 := bo_; unfold bd at h9_0; have h9_1 := bop_; unfold bd at h9_1; have h9_2 := bt_; unfold bd at h9_2; have h9_3 := h_14; unfold bd at h9_3; omega)
      have go_ := g
      refine g_callEv (As := []) (rest := []) ⟨hx, hb, hml, hown, hts⟩ (r_X14_counts_2 l dC dI L kd tys fr_10 H.size g.2.2.2.1 a0_ ma0_ ka0_ q0_ mq0_ kq0_ V_ hG_41 (g.fcts [1] rfl)) (cwV 0 hts (gV_ t_2476 t_2478 t_116 t_198 t_2479) rfl rfl rfl (by decide +kernel) ⟨(show 2 + 1 ≤ N + 1 + 24 by omega), (show 8 + (1 + 11) + 45 ≤ 60 * (N + 1) + 700 by omega)⟩) (pre3V g hK ma0_ ka0_ (by decide) (q := (RX14, TX14, 67)) rfl) rfl hl.1 rfl (lv_room (Nat.le_of_ble_eq_true rfl)) dX14_readUnary_24 (cl_f hck_0) g hK (by decide) (by decide) (fx' := [(14, 6, a0_, .int x_13), (14, 2, a0_, .ref q0_), (14, 16, a0_, .int o_), (14, 25, a0_, .int op_), (14, 10, a0_, .int t_)]) rfl (fun xr_45 fr_45 H locs mxr_45 kxr_45 hp hMr_45 g => ?_) (fun fr_45 H locs hp hMr_45 g => ?_)
      · have hG_46 := cEq.frame hMr_45 go_.2.2.2.1 ma0_ ka0_ (by decide) (by decide) hG_43
        subst hQ
        exact leavesX hempty hlocks (fun t ht hW => g_thrX g hK mxr_45 kxr_45 (by omega) ht hW) g.2.2.1.2.2
      · obtain ⟨hx_47, hx_48, x_49, h_50, hF_51⟩ := hp
        have hG_52 := cEq.frame hMr_45 go_.2.2.2.1 ma0_ ka0_ (by decide) (by decide) hG_43
        have hF_53 := FR.call (mds := []) (mas := []) hG_42 go_ mq0_ kq0_ rfl hx_48
        have g := g.more hF_51
        refine lv_aload_n hx hb dX14_readUnary_27 rfl (lv_at hl 0 rfl) ?_
        refine lv_aload_n hx hb dX14_readUnary_28 rfl (lv_at hl 0 rfl) ?_
        refine g_geti (C := RX14) (T := TX14) (N := 67) hx hb hts (mc_ inX14) hown hK g ma0_ ka0_ (by decide) rfl 8 (by decide) rfl (hts _ (List.mem_cons_of_mem _ t_2154)) (fun _ h9 => h9) rfl dX14_readUnary_29 (fun x_54 bx_54 g => ?_)
        have hs_55 := sE_1 g 2 rfl (by have h9_0 := bo_; unfold bd at h9_0; have h9_1 := bop_; unfold bd at h9_1; have h9_2 := bt_; unfold bd at h9_2; have h9_3 := h_14; unfold bd at h9_3; have h9_4 := h_50; unfold bd at h9_4; have h9_5 := bx_54; unfold bd at h9_5; omega)
        have go_ := g
        refine g_callEv (As := [.int x_54]) (rest := []) ⟨hx, hb, hml, hown, hts⟩ (r_X14_opens_2 l dC dI L kd tys fr_45 H.size g.2.2.2.1 a0_ ma0_ ka0_ x_54 op_ bop_ (g.fcts [5] rfl)) (cwV 1 hts (gV_ t_2488 t_2490 t_119 t_198 t_2491) rfl rfl rfl (by decide +kernel) ⟨(show 2 + 1 ≤ N + 1 + 24 by omega), (show 8 + (2 + 11) + 45 ≤ 60 * (N + 1) + 700 by omega)⟩) (pre3V g hK ma0_ ka0_ (by decide) (q := (RX14, TX14, 67)) rfl) rfl hl.1 rfl (lv_room (Nat.le_of_ble_eq_true rfl)) dX14_readUnary_32 (cl_f hck_0) g hK (by decide) (by decide) (fx' := [(14, 8, a0_, .int x_54), (12, 58, q0_, .int x_49), (14, 6, a0_, .int x_13), (14, 2, a0_, .ref q0_), (14, 16, a0_, .int o_), (14, 10, a0_, .int t_)]) rfl (fun xr_56 fr_56 H locs mxr_56 kxr_56 hp hMr_56 g => ?_) (fun fr_56 H locs hp hMr_56 g => ?_)
        · have hG_57 := cEq.frame hMr_56 go_.2.2.2.1 ma0_ ka0_ (by decide) (by decide) hG_52
          have hG_58 := FR.frame hMr_56 go_.2.2.2.1 mq0_ kq0_ (by decide) (by decide) hF_53
          have hG_59 := isV.frame hMr_56 go_.2.2.2.1 mq0_ kq0_ (by decide) (by decide) hx_47
          subst hQ
          exact leavesX hempty hlocks (fun t ht hW => g_thrX g hK mxr_56 kxr_56 (by omega) ht hW) g.2.2.1.2.2
        · obtain ⟨h_60, x_61, ⟨h_62, rh_62⟩, hF_63⟩ := hp
          have hG_64 := cEq.frame hMr_56 go_.2.2.2.1 ma0_ ka0_ (by decide) (by decide) hG_52
          have hG_65 := FR.frame hMr_56 go_.2.2.2.1 mq0_ kq0_ (by decide) (by decide) hF_53
          have hG_66 := isV.frame hMr_56 go_.2.2.2.1 mq0_ kq0_ (by decide) (by decide) hx_47
          have b_67 : bd 0 39 op_ := eqX rfl bop_ h_60 (by decide)
          have g := g.more hF_63
          refine lv_aload_n hx hb dX14_readUnary_35 rfl (lv_at hl 0 rfl) ?_
          refine lv_bipush (v := 45) hx hb dX14_readUnary_36 (by decide) ?_
          have hs_68 := sE_1 g 3 rfl (by have h9_0 := bo_; unfold bd at h9_0; have h9_1 := b_67; unfold bd at h9_1; have h9_2 := bt_; unfold bd at h9_2; have h9_3 := h_14; unfold bd at h9_3; have h9_4 := h_50; unfold bd at h9_4; have h9_5 := bx_54; unfold bd at h9_5; have h9_6 := h_62; unfold bd at h9_6; omega)
          have go_ := g
          refine g_calli (va_runV (As := [.int 45]) (rest := []) ⟨hx, hb, hml, hown, hts⟩ (r_X14_isSign l dC dI L kd tys fr_56 H.size g.2.2.2.1 a0_ ma0_ ka0_ 45) (cwV 1 hts (gV_ t_2435 t_2437 t_108 t_198 t_2438) rfl rfl rfl (by decide +kernel) ⟨(show 0 + 1 ≤ N + 1 + 24 by omega), (show 8 + (2 + 11) + 0 ≤ 60 * (N + 1) + 700 by omega)⟩) (pre3V g hK ma0_ ka0_ (by decide) (q := (RX14, TX14, 67)) rfl) rfl rfl hl.1 rfl (lv_room (Nat.le_of_ble_eq_true rfl)) dX14_readUnary_38 (cl_f hck_0)) g hK (by decide) (by decide) (fx' := [(14, 25, a0_, .int x_61), (14, 8, a0_, .int x_54), (12, 58, q0_, .int x_49), (14, 6, a0_, .int x_13), (14, 2, a0_, .ref q0_), (14, 16, a0_, .int o_), (14, 10, a0_, .int t_)]) rfl (fun r_69 fr_69 H locs hp hMr_69 g => ?_)
          rcases hp with ⟨h_70, -⟩ | ⟨h_71, x_72, h_73, hF_74⟩
          · have hG_75 := cEq.frame hMr_69 go_.2.2.2.1 ma0_ ka0_ (by decide) (by decide) hG_64
            have hG_76 := FR.frame hMr_69 go_.2.2.2.1 mq0_ kq0_ (by decide) (by decide) hG_65
            have hG_77 := isV.frame hMr_69 go_.2.2.2.1 mq0_ kq0_ (by decide) (by decide) hG_66
            obtain rfl : r_69 = 0 := h_70
            refine lv_if_eq (tgt := 49) hx hb dX14_readUnary_41 (by decide) (fun c_ => ?_) (fun c_ => absurd (by decide) c_)
            refine lv_bipush (v := 8) hx hb dX14_readUnary_49 (by decide) ?_
            refine lv_istore_n (lv' := [(1, .int 8), (0, .ref a0_)]) hx hb dX14_readUnary_51 rfl hl (by decide) rfl (fun ls hl => ?_)
            refine lv_aload_n hx hb dX14_readUnary_52 rfl (lv_at hl 1 rfl) ?_
            refine g_getk (C := RX14) (T := TX14) (N := 67) hx hb hts (mc_ inX14) hown hK g rfl 8 (by decide) rfl (hts _ (List.mem_cons_of_mem _ t_2154)) (fun _ h9 => h9) 1 rfl dX14_readUnary_53 ?_
            refine lv_istore_n (lv' := [(2, .int x_54), (1, .int 8), (0, .ref a0_)]) hx hb dX14_readUnary_56 rfl hl (by decide) rfl (fun ls hl => ?_)
            refine lv_aload_n hx hb dX14_readUnary_57 rfl (lv_at hl 2 rfl) ?_
            have hs_78 := sE_1 g 3 rfl (by have h9_0 := bo_; unfold bd at h9_0; have h9_1 := b_67; unfold bd at h9_1; have h9_2 := bt_; unfold bd at h9_2; have h9_3 := h_14; unfold bd at h9_3; have h9_4 := h_50; unfold bd at h9_4; have h9_5 := bx_54; unfold bd at h9_5; have h9_6 := h_62; unfold bd at h9_6; omega)
            have go_ := g
            refine g_callEv (As := []) (rest := []) ⟨hx, hb, hml, hown, hts⟩ (r_X14_next_2 l dC dI L kd tys fr_69 H.size g.2.2.2.1 adK adV a0_ ma0_ ka0_ t_ bt_ (g.fcts [6] rfl)) (cwV 0 hts (gV_ t_2411 t_2413 t_102 t_198 t_2414) rfl rfl rfl (by decide +kernel) ⟨(show 6 + 1 ≤ N + 1 + 24 by omega), (show 8 + (1 + 11) + 135 ≤ 60 * (N + 1) + 700 by omega)⟩) (pre3VA g hK hAm ma0_ ka0_ (by decide) (q := (RX14, TX14, 67)) rfl) rfl hl.1 rfl (lv_room (Nat.le_of_ble_eq_true rfl)) dX14_readUnary_58 (cl_f hck_0) g hK (by decide) (by decide) (fx' := [(14, 25, a0_, .int x_61), (12, 58, q0_, .int x_49), (14, 2, a0_, .ref q0_), (14, 16, a0_, .int o_)]) rfl (fun xr_79 fr_79 H locs mxr_79 kxr_79 hp hMr_79 g => ?_) (fun fr_79 H locs hp hMr_79 g => ?_)
            · have hG_80 := FR.frame hMr_79 go_.2.2.2.1 mq0_ kq0_ (by decide) (by decide) hG_76
              have hG_81 := isV.frame hMr_79 go_.2.2.2.1 mq0_ kq0_ (by decide) (by decide) hG_77
              subst hQ
              exact leavesX hempty hlocks (fun t ht hW => g_thrX g hK mxr_79 kxr_79 (by omega) ht hW) g.2.2.1.2.2
            · obtain ⟨hx_82, h_83, x_84, h_85, hF_86⟩ := hp
              have hG_87 := FR.frame hMr_79 go_.2.2.2.1 mq0_ kq0_ (by decide) (by decide) hG_76
              have hG_88 := isV.frame hMr_79 go_.2.2.2.1 mq0_ kq0_ (by decide) (by decide) hG_77
              obtain ⟨E_89, hE_89⟩ : ∃ E : Int, cEq fr_79 a0_ E := ⟨_, rfl⟩
              have mxE_89 : E_89 ≤ 1202 := by have h9 := cF_le g ma0_ ka0_; have h8 : cF _ _ = _ := hE_89; omega
              have lE_89 : (cF f0 a0_) + 1 ≤ E_89 := by have h9 := hx_82; have h8 : cF _ _ = _ := hE_89; have h7 : cF _ _ = _ := hG_75; have h6 := hs_78; have h5 := tk_c (f := fr_69) (t := a0_); omega
              have b_90 : bd 0 1200 t_ := eqX rfl bt_ h_83 (by decide)
              have g := g.more hF_86
              refine lv_aload_n hx hb dX14_readUnary_61 rfl (lv_at hl 2 rfl) ?_
              have qc__91 : cF fr_79 a0_ = _ := hE_89
              have go_ := g
              refine g_callXi (As := []) (rest := []) ⟨hx, hb, hml, hown, hts⟩ (ih.2.1 l dC dI L kd tys fr_79 H.size g.2.2.2.1 adK adV a0_ ma0_ ka0_ q0_ mq0_ kq0_ V_ o_ bo_ x_61 (bd_sub h_62 (by decide)) x_84 h_85 hG_88 hwf ho (by omega) (K_ - cl_0) (by omega) (by have h9_0 := bo_; unfold bd at h9_0; have h9_1 := b_67; unfold bd at h9_1; have h9_2 := b_90; unfold bd at h9_2; have h9_3 := h_14; unfold bd at h9_3; have h9_4 := h_50; unfold bd at h9_4; have h9_5 := bx_54; unfold bd at h9_5; have h9_6 := h_62; unfold bd at h9_6; have h9_7 := h_85; unfold bd at h9_7; omega) (g.fcts [3, 4, 1, 0] rfl)) (cwV 0 hts (gV_ t_2468 t_2470 t_114 t_198 t_2471) rfl rfl rfl (by decide +kernel) ⟨(show N + 24 + 1 ≤ N + 1 + 24 by omega), (show 8 + (4 + 11) + (60 * N + 700) ≤ 60 * (N + 1) + 700 by omega)⟩) (pre3VA g hK hAm ma0_ ka0_ (by decide) (q := (RX14, TX14, 67)) rfl) rfl hl.1 rfl (lv_room (Nat.le_of_ble_eq_true rfl)) dX14_readUnary_62 (cl_k (K := K_) (k := K_ - cl_0) (show cl_0 + (K_ - cl_0) ≤ K_ by omega)) g hK (by decide) (by decide) (fx' := [(14, 2, a0_, .ref q0_), (14, 16, a0_, .int o_)]) rfl (fun xr_92 fr_92 H locs kr_92 cr_92 ecr_92 mxr_92 kxr_92 hp hMr_92 g => ?_) (fun r_92 fr_92 H locs kr_92 cr_92 ecr_92 hp hMr_92 g => ?_)
              · subst hQ
                exact leavesX hempty hlocks (fun t ht hW => g_thrX g hK mxr_92 kxr_92 (by omega) ht hW) g.2.2.1.2.2
              · obtain ⟨hx_93, x_94, h_95, hF_96⟩ := hp
                obtain ⟨V_97, E_98, hV_99, hF_100, hE_101, hX_102, hw_103, hv_104, hP_105, hn_106, hk_107, hc_108⟩ := rd_use hx_93 hE_89
                have hF_109 := FR.call (mds := []) (mas := []) hG_87 go_ mq0_ kq0_ rfl hF_100
                have mxE_98 : E_98 ≤ 1202 := by have h9 := cF_le g ma0_ ka0_; have h8 : cF _ _ = _ := hE_101; omega
                have hx_110 := exN.tr exN.rf hX_102
                have hck_111 : cr_92 ≤ K_ := by omega
                have b_112 : bd 0 2499 r_92 := ⟨hv_104.1, (by have h9 := hv_104.2.1; omega)⟩
                have g := g.more hF_96
                refine lv_istore_n (lv' := [(3, .int r_92), (2, .int x_54), (1, .int 8), (0, .ref a0_)]) hx hb dX14_readUnary_65 rfl hl (by decide) rfl (fun ls hl => ?_)
                refine lv_aload_n hx hb dX14_readUnary_66 rfl (lv_at hl 3 rfl) ?_
                refine lv_dup hx hb dX14_readUnary_67 rfl ?_
                refine g_getk (C := RX14) (T := TX14) (N := 67) hx hb hts (mc_ inX14) hown hK g rfl 25 (by decide) rfl (hts _ (List.mem_cons_of_mem _ t_2171)) (fun _ h9 => h9) 0 rfl dX14_readUnary_68 ?_
                refine lv_iconst (v := 1) hx hb dX14_readUnary_71 (by decide) ?_
                have kb_1 : bd 1 1 (1 : Int32) := ⟨by decide, by decide⟩
                refine lv_isub hx hb dX14_readUnary_72 ?_
                refine lv_topi (fun y_113 ey_113 => ?_)
                have ty_113 := sub_bd ey_113 h_62 kb_1 (by decide)
                have b_114 : bd 0 39 y_113 := sub_rg ty_113 h_62 kb_1 (by decide)
                have go_ := g
                refine g_put (C := RX14) (T := TX14) (N := 67) hx hb hts (mc_ inX14) tyX14 tyX14_ok nmX14 hown hK g ma0_ ka0_ (by decide) rfl 25 (by decide) (hts _ (List.mem_cons_of_mem _ t_2171)) (fun _ h9 => h9) rfl rfl (okV_i (bd_sub b_114 (by decide))) rfl rfl (by decide) (Or.inr (Or.inl (by decide))) (fx' := [(14, 10, a0_, .int x_94), (14, 2, a0_, .ref q0_), (14, 16, a0_, .int o_)]) rfl dX14_readUnary_73 (fun f H locs hM_115 g => ?_)
                have hG_116 := isV.frame hM_115 go_.2.2.2.1 mq0_ kq0_ (by decide) (by decide) hV_99
                have hG_117 := FR.frame hM_115 go_.2.2.2.1 mq0_ kq0_ (by decide) (by decide) hF_109
                have hG_118 := cEq.frame hM_115 go_.2.2.2.1 ma0_ ka0_ (by decide) (by decide) hE_101
                refine lv_aload_n hx hb dX14_readUnary_76 rfl (lv_at hl 3 rfl) ?_
                refine lv_aload_n hx hb dX14_readUnary_77 rfl (lv_at hl 3 rfl) ?_
                refine g_getk (C := RX14) (T := TX14) (N := 67) hx hb hts (mc_ inX14) hown hK g rfl 2 (by decide) rfl (hts _ (List.mem_cons_of_mem _ t_2148)) (fun _ h9 => h9) 2 rfl dX14_readUnary_78 ?_
                refine g_getr (K := 205) (C := RX12) (T := TX12) (N := 60) hx hb hts (mc_ inX12) hown hK g mq0_ kq0_ (by decide) rfl 51 (by decide) rfl (hts _ (List.mem_cons_of_mem _ t_2006)) (fun _ h9 => h9) rfl dX14_readUnary_81 (fun a_119 ma_119 ka_119 g => ?_)
                refine lv_iload_n hx hb dX14_readUnary_84 rfl (lv_at hl 0 rfl) ?_
                refine g_iald hx hb hK g ma_119 ka_119 (by decide) rfl (in_bd b_112 (by decide)) dX14_readUnary_85 (fun x_120 bx_120 cx_120 => ?_)
                have vx_120 : x_120 = V_97.i 51 r_92.toNatClampNeg := hG_116.at g 0 rfl rfl cx_120
                have b_121 : bd 1 12 x_120 := ev_hb hw_103 hv_104 vx_120
                refine lv_bipush (v := 12) hx hb dX14_readUnary_86 (by decide) ?_
                have kb_12 : bd 12 12 (12 : Int32) := ⟨by decide, by decide⟩
                refine lv_icmp_ge (tgt := 95) hx hb dX14_readUnary_88 (by decide) (fun c_122 => ?_) (fun c_122 => ?_)
                · have fc_122 := le_f c_122
                  have b_123 : bd 12 12 x_120 := leR fc_122 kb_12 b_121 (by decide)
                  refine lv_iconst (v := 0) hx hb dX14_readUnary_95 (by decide) ?_
                  refine lv_bipush (v := 7) hx hb dX14_readUnary_96 (by decide) ?_
                  refine lv_iload_n hx hb dX14_readUnary_98 rfl (lv_at hl 1 rfl) ?_
                  have kb_0 : bd 0 0 (0 : Int32) := ⟨by decide, by decide⟩
                  have go_ := g
                  refine g_callEv (As := [.int 0, .int 7, .int x_54]) (rest := []) ⟨hx, hb, hml, hown, hts⟩ (r_X14_need_2 l dC dI L kd tys f H.size g.2.2.2.1 a0_ ma0_ ka0_ 0 kb_0 7 x_54) (cwV 3 hts (gV_ t_2403 t_2405 t_100 t_198 t_2406) rfl rfl rfl (by decide +kernel) ⟨(show 1 + 1 ≤ N + 1 + 24 by omega), (show 8 + (4 + 11) + 22 ≤ 60 * (N + 1) + 700 by omega)⟩) (pre3V g hK ma0_ ka0_ (by decide) (q := (RX14, TX14, 67)) rfl) rfl hl.1 rfl (lv_room (Nat.le_of_ble_eq_true rfl)) dX14_readUnary_99 (cl_f hck_111) g hK (by decide) (by decide) (fx' := [(12, 51, q0_, .ref a_119), (14, 25, a0_, .int y_113), (14, 10, a0_, .int x_94), (14, 2, a0_, .ref q0_), (14, 16, a0_, .int o_)]) rfl (fun xr_124 fr_124 H locs mxr_124 kxr_124 hp hMr_124 g => ?_) (fun fr_124 H locs hp hMr_124 g => ?_)
                  · have hG_125 := isV.frame hMr_124 go_.2.2.2.1 mq0_ kq0_ (by decide) (by decide) hG_116
                    have hG_126 := FR.frame hMr_124 go_.2.2.2.1 mq0_ kq0_ (by decide) (by decide) hG_117
                    have hG_127 := cEq.frame hMr_124 go_.2.2.2.1 ma0_ ka0_ (by decide) (by decide) hG_118
                    subst hQ
                    exact leavesX hempty hlocks (fun t ht hW => g_thrX g hK mxr_124 kxr_124 (by omega) ht hW) g.2.2.1.2.2
                  · exact hp.elim
                · have fc_122 := nle_f c_122
                  have b_128 : bd 1 11 x_120 := ltL fc_122 b_121 kb_12 (by decide)
                  refine lv_iconst (v := 1) hx hb dX14_readUnary_91 (by decide) ?_
                  refine lv_goto (tgt := 96) hx hb dX14_readUnary_92 (by decide) ?_
                  refine lv_bipush (v := 7) hx hb dX14_readUnary_96 (by decide) ?_
                  refine lv_iload_n hx hb dX14_readUnary_98 rfl (lv_at hl 1 rfl) ?_
                  have go_ := g
                  refine g_callEv (As := [.int 1, .int 7, .int x_54]) (rest := []) ⟨hx, hb, hml, hown, hts⟩ (r_X14_need_3 l dC dI L kd tys f H.size g.2.2.2.1 a0_ ma0_ ka0_ 1 kb_1 7 x_54) (cwV 3 hts (gV_ t_2403 t_2405 t_100 t_198 t_2406) rfl rfl rfl (by decide +kernel) ⟨(show 0 + 1 ≤ N + 1 + 24 by omega), (show 8 + (4 + 11) + 0 ≤ 60 * (N + 1) + 700 by omega)⟩) (pre3V g hK ma0_ ka0_ (by decide) (q := (RX14, TX14, 67)) rfl) rfl hl.1 rfl (lv_room (Nat.le_of_ble_eq_true rfl)) dX14_readUnary_99 (cl_f hck_111) g hK (by decide) (by decide) (fx' := [(12, 51, q0_, .ref a_119), (14, 25, a0_, .int y_113), (14, 10, a0_, .int x_94), (14, 2, a0_, .ref q0_), (14, 16, a0_, .int o_)]) rfl (fun xr_129 fr_129 H locs mxr_129 kxr_129 hp hMr_129 g => ?_) (fun fr_129 H locs hp hMr_129 g => ?_)
                  · have hG_130 := isV.frame hMr_129 go_.2.2.2.1 mq0_ kq0_ (by decide) (by decide) hG_116
                    have hG_131 := FR.frame hMr_129 go_.2.2.2.1 mq0_ kq0_ (by decide) (by decide) hG_117
                    have hG_132 := cEq.frame hMr_129 go_.2.2.2.1 ma0_ ka0_ (by decide) (by decide) hG_118
                    exact hp.elim
                  · have hG_133 := isV.frame hMr_129 go_.2.2.2.1 mq0_ kq0_ (by decide) (by decide) hG_116
                    have hG_134 := FR.frame hMr_129 go_.2.2.2.1 mq0_ kq0_ (by decide) (by decide) hG_117
                    have hG_135 := cEq.frame hMr_129 go_.2.2.2.1 ma0_ ka0_ (by decide) (by decide) hG_118
                    refine lv_aload_n hx hb dX14_readUnary_102 rfl (lv_at hl 3 rfl) ?_
                    refine lv_iload_n hx hb dX14_readUnary_103 rfl (lv_at hl 2 rfl) ?_
                    refine lv_iload_n hx hb dX14_readUnary_104 rfl (lv_at hl 0 rfl) ?_
                    refine lv_iconst (v := (-1)) hx hb dX14_readUnary_105 (by decide) ?_
                    refine lv_iconst (v := 1) hx hb dX14_readUnary_106 (by decide) ?_
                    refine lv_aload_n hx hb dX14_readUnary_107 rfl (lv_at hl 3 rfl) ?_
                    refine g_getk (C := RX14) (T := TX14) (N := 67) hx hb hts (mc_ inX14) hown hK g rfl 2 (by decide) rfl (hts _ (List.mem_cons_of_mem _ t_2148)) (fun _ h9 => h9) 3 rfl dX14_readUnary_108 ?_
                    refine g_getk (C := RX12) (T := TX12) (N := 60) hx hb hts (mc_ inX12) hown hK g rfl 51 (by decide) rfl (hts _ (List.mem_cons_of_mem _ t_2006)) (fun _ h9 => h9) 0 rfl dX14_readUnary_111 ?_
                    refine lv_iload_n hx hb dX14_readUnary_114 rfl (lv_at hl 0 rfl) ?_
                    refine g_iald hx hb hK g ma_119 ka_119 (by decide) rfl (in_bd b_112 (by decide)) dX14_readUnary_115 (fun x_136 bx_136 cx_136 => ?_)
                    obtain rfl : x_120 = x_136 := el_same cx_120 cx_136 (arr_eq hMr_129 ma_119 ka_119 (by decide) rfl)
                    refine lv_iadd hx hb dX14_readUnary_116 ?_
                    refine lv_topi (fun y_137 ey_137 => ?_)
                    have ty_137 := add_bd ey_137 kb_1 b_128 (by decide)
                    have b_138 : bd 2 12 y_137 := add_rg ty_137 kb_1 b_128 (by decide)
                    have hnb : (V_97.n 57).toInt ≤ 2499 := by omega
                    have go_ := g
                    refine g_calli (va_runV (As := [.int 8, .int r_92, .int (-1), .int y_137]) (rest := []) ⟨hx, hb, hml, hown, hts⟩ (r_X14_node l dC dI L kd tys fr_129 H.size g.2.2.2.1 a0_ ma0_ ka0_ 8 r_92 (-1) y_137 q0_ mq0_ kq0_ o_ bo_ V_97 hG_133 hnb (g.fcts [3, 4] rfl)) (cwV 4 hts (gV_ t_2480 t_2482 t_117 t_198 t_2483) rfl rfl rfl (by decide +kernel) ⟨(show 0 + 1 ≤ N + 1 + 24 by omega), (show 8 + (6 + 11) + 0 ≤ 60 * (N + 1) + 700 by omega)⟩) (pre3V g hK ma0_ ka0_ (by decide) (q := (RX14, TX14, 67)) rfl) rfl rfl hl.1 rfl (lv_room (Nat.le_of_ble_eq_true rfl)) dX14_readUnary_117 (cl_f hck_111)) g hK (by decide) (by decide) (fx' := [(12, 51, q0_, .ref a_119), (14, 25, a0_, .int y_113), (14, 10, a0_, .int x_94), (14, 2, a0_, .ref q0_), (14, 16, a0_, .int o_)]) rfl (fun r_139 fr_139 H locs hp hMr_139 g => ?_)
                    obtain ⟨hx_140, hx_141, h_142, x_143, h_144, hF_145⟩ := hp
                    have hG_146 := cEq.frame hMr_139 go_.2.2.2.1 ma0_ ka0_ (by decide) (by decide) hG_135
                    have hF_147 := FR.call (mds := []) (mas := []) hG_134 go_ mq0_ kq0_ rfl hx_141
                    obtain ⟨V_148, hV_149, hN_150⟩ := hx_140
                    have g := g.more hF_145
                    have hf_151 : fin V_97 V_148 r_139 12 o_ := nd_un hN_150 h_142.1 hw_103 ⟨(by have h9_0 := bo_; unfold bd at h9_0; have h9_1 := b_67; unfold bd at h9_1; have h9_2 := h_142; unfold bd at h9_2; have h9_3 := b_112; unfold bd at h9_3; have h9_4 := b_90; unfold bd at h9_4; have h9_5 := b_128; unfold bd at h9_5; have h9_6 := h_14; unfold bd at h9_6; have h9_7 := h_144; unfold bd at h9_7; have h9_8 := h_50; unfold bd at h9_8; have h9_9 := bx_54; unfold bd at h9_9; have h9_10 := h_62; unfold bd at h9_10; have h9_11 := h_85; unfold bd at h9_11; have h9_12 := h_95; unfold bd at h9_12; have h9_13 := b_114; unfold bd at h9_13; have h9_14 := b_138; unfold bd at h9_14; have h8_0 := kb_1; unfold bd at h8_0; have h8_1 := kb_12; unfold bd at h8_1; omega), (by have h9_0 := bo_; unfold bd at h9_0; have h9_1 := b_67; unfold bd at h9_1; have h9_2 := h_142; unfold bd at h9_2; have h9_3 := b_112; unfold bd at h9_3; have h9_4 := b_90; unfold bd at h9_4; have h9_5 := b_128; unfold bd at h9_5; have h9_6 := h_14; unfold bd at h9_6; have h9_7 := h_144; unfold bd at h9_7; have h9_8 := h_50; unfold bd at h9_8; have h9_9 := bx_54; unfold bd at h9_9; have h9_10 := h_62; unfold bd at h9_10; have h9_11 := h_85; unfold bd at h9_11; have h9_12 := h_95; unfold bd at h9_12; have h9_13 := b_114; unfold bd at h9_13; have h9_14 := b_138; unfold bd at h9_14; have h8_0 := kb_1; unfold bd at h8_0; have h8_1 := kb_12; unfold bd at h8_1; omega)⟩ (by have h9_0 := bo_; unfold bd at h9_0; have h9_1 := b_67; unfold bd at h9_1; have h9_2 := h_142; unfold bd at h9_2; have h9_3 := b_112; unfold bd at h9_3; have h9_4 := b_90; unfold bd at h9_4; have h9_5 := b_128; unfold bd at h9_5; have h9_6 := h_14; unfold bd at h9_6; have h9_7 := h_144; unfold bd at h9_7; have h9_8 := h_50; unfold bd at h9_8; have h9_9 := bx_54; unfold bd at h9_9; have h9_10 := h_62; unfold bd at h9_10; have h9_11 := h_85; unfold bd at h9_11; have h9_12 := h_95; unfold bd at h9_12; have h9_13 := b_114; unfold bd at h9_13; have h9_14 := b_138; unfold bd at h9_14; have h8_0 := kb_1; unfold bd at h8_0; have h8_1 := kb_12; unfold bd at h8_1; omega) (by rw [hx_110.2.2.1 0 (by decide)]; exact ho) (by decide) (EV.at_ hv_104 vx_120) (by have h9_0 := bo_; unfold bd at h9_0; have h9_1 := b_67; unfold bd at h9_1; have h9_2 := h_142; unfold bd at h9_2; have h9_3 := b_112; unfold bd at h9_3; have h9_4 := b_90; unfold bd at h9_4; have h9_5 := b_128; unfold bd at h9_5; have h9_6 := h_14; unfold bd at h9_6; have h9_7 := h_144; unfold bd at h9_7; have h9_8 := h_50; unfold bd at h9_8; have h9_9 := bx_54; unfold bd at h9_9; have h9_10 := h_62; unfold bd at h9_10; have h9_11 := h_85; unfold bd at h9_11; have h9_12 := h_95; unfold bd at h9_12; have h9_13 := b_114; unfold bd at h9_13; have h9_14 := b_138; unfold bd at h9_14; have h8_0 := kb_1; unfold bd at h8_0; have h8_1 := kb_12; unfold bd at h8_1; omega)
                    have ho_155 : (V_148.i 47 r_139.toNatClampNeg).toInt = 8 := (congrArg Int32.toInt (hN_150).2.2.2.1).trans (by decide)
                    obtain ⟨V_152, hV_153, hf_154, ho_155⟩ : ∃ V1 : PV, isV fr_139 q0_ V1 ∧ fin V_97 V1 r_139 12 o_ ∧ (V1.i 47 r_139.toNatClampNeg).toInt = 8 := ⟨_, hV_149, hf_151, ho_155⟩
                    have hf_154n := hf_154.2.2.2
                    have hx_156 := exN.tr hx_110 hf_154.1
                    have he_157 := exN.ev hf_154.1 hv_104
                    obtain rfl : op_ = y_113 := Int32.toInt_inj.mp (by have h9_0 := bo_; unfold bd at h9_0; have h9_1 := b_67; unfold bd at h9_1; have h9_2 := h_142; unfold bd at h9_2; have h9_3 := b_112; unfold bd at h9_3; have h9_4 := b_90; unfold bd at h9_4; have h9_5 := b_128; unfold bd at h9_5; have h9_6 := h_14; unfold bd at h9_6; have h9_7 := h_144; unfold bd at h9_7; have h9_8 := h_50; unfold bd at h9_8; have h9_9 := bx_54; unfold bd at h9_9; have h9_10 := h_62; unfold bd at h9_10; have h9_11 := h_85; unfold bd at h9_11; have h9_12 := h_95; unfold bd at h9_12; have h9_13 := b_114; unfold bd at h9_13; have h9_14 := b_138; unfold bd at h9_14; have h8_0 := kb_1; unfold bd at h8_0; have h8_1 := kb_12; unfold bd at h8_1; omega)
                    have h9c : cF fr_139 a0_ = _ := hG_146
                    subst hQ
                    exact iretX (v := r_139) hx hb hr (fun t ht hW => g_retX g hK ⟨_, rfl, ⟨⟨_, hV_153, hF_147, hx_156, hf_154.2.1, hf_154.2.2.1, trivial, (by omega), (by omega), (by omega)⟩, x_94, h_95, (g.fcts [2, 3] rfl)⟩⟩ ht hW) g.2.2.1.2.2 dX14_readUnary_120 hlocks
          · have hG_158 := cEq.frame hMr_69 go_.2.2.2.1 ma0_ ka0_ (by decide) (by decide) hG_64
            have hG_159 := FR.frame hMr_69 go_.2.2.2.1 mq0_ kq0_ (by decide) (by decide) hG_65
            have hG_160 := isV.frame hMr_69 go_.2.2.2.1 mq0_ kq0_ (by decide) (by decide) hG_66
            obtain rfl : r_69 = 1 := h_71
            have g := g.more hF_74
            have e_161 := fx_same g 4 0 rfl rfl
            have g := g.sub (fx' := [(14, 25, a0_, .int x_61), (14, 8, a0_, .int x_54), (12, 58, q0_, .int x_49), (14, 6, a0_, .int x_13), (14, 2, a0_, .ref q0_), (14, 16, a0_, .int o_), (14, 10, a0_, .int t_)]) [1, 2, 3, 4, 5, 6, 7] rfl
            refine lv_if_eq (tgt := 49) hx hb dX14_readUnary_41 (by decide) (fun c_ => absurd c_ (by decide)) (fun c_ => ?_)
            refine lv_bipush (v := 7) hx hb dX14_readUnary_44 (by decide) ?_
            refine lv_goto (tgt := 51) hx hb dX14_readUnary_46 (by decide) ?_
            refine lv_istore_n (lv' := [(1, .int 7), (0, .ref a0_)]) hx hb dX14_readUnary_51 rfl hl (by decide) rfl (fun ls hl => ?_)
            refine lv_aload_n hx hb dX14_readUnary_52 rfl (lv_at hl 1 rfl) ?_
            refine g_getk (C := RX14) (T := TX14) (N := 67) hx hb hts (mc_ inX14) hown hK g rfl 8 (by decide) rfl (hts _ (List.mem_cons_of_mem _ t_2154)) (fun _ h9 => h9) 1 rfl dX14_readUnary_53 ?_
            refine lv_istore_n (lv' := [(2, .int x_54), (1, .int 7), (0, .ref a0_)]) hx hb dX14_readUnary_56 rfl hl (by decide) rfl (fun ls hl => ?_)
            refine lv_aload_n hx hb dX14_readUnary_57 rfl (lv_at hl 2 rfl) ?_
            have hs_162 := sE_1 g 3 rfl (by have h9_0 := bo_; unfold bd at h9_0; have h9_1 := b_67; unfold bd at h9_1; have h9_2 := bt_; unfold bd at h9_2; have h9_3 := h_14; unfold bd at h9_3; have h9_4 := h_50; unfold bd at h9_4; have h9_5 := bx_54; unfold bd at h9_5; have h9_6 := h_62; unfold bd at h9_6; have h9_7 := h_73; unfold bd at h9_7; omega)
            have go_ := g
            refine g_callEv (As := []) (rest := []) ⟨hx, hb, hml, hown, hts⟩ (r_X14_next_2 l dC dI L kd tys fr_69 H.size g.2.2.2.1 adK adV a0_ ma0_ ka0_ t_ bt_ (g.fcts [6] rfl)) (cwV 0 hts (gV_ t_2411 t_2413 t_102 t_198 t_2414) rfl rfl rfl (by decide +kernel) ⟨(show 6 + 1 ≤ N + 1 + 24 by omega), (show 8 + (1 + 11) + 135 ≤ 60 * (N + 1) + 700 by omega)⟩) (pre3VA g hK hAm ma0_ ka0_ (by decide) (q := (RX14, TX14, 67)) rfl) rfl hl.1 rfl (lv_room (Nat.le_of_ble_eq_true rfl)) dX14_readUnary_58 (cl_f hck_0) g hK (by decide) (by decide) (fx' := [(14, 25, a0_, .int x_61), (12, 58, q0_, .int x_49), (14, 2, a0_, .ref q0_), (14, 16, a0_, .int o_)]) rfl (fun xr_163 fr_163 H locs mxr_163 kxr_163 hp hMr_163 g => ?_) (fun fr_163 H locs hp hMr_163 g => ?_)
            · have hG_164 := FR.frame hMr_163 go_.2.2.2.1 mq0_ kq0_ (by decide) (by decide) hG_159
              have hG_165 := isV.frame hMr_163 go_.2.2.2.1 mq0_ kq0_ (by decide) (by decide) hG_160
              subst hQ
              exact leavesX hempty hlocks (fun t ht hW => g_thrX g hK mxr_163 kxr_163 (by omega) ht hW) g.2.2.1.2.2
            · obtain ⟨hx_166, h_167, x_168, h_169, hF_170⟩ := hp
              have hG_171 := FR.frame hMr_163 go_.2.2.2.1 mq0_ kq0_ (by decide) (by decide) hG_159
              have hG_172 := isV.frame hMr_163 go_.2.2.2.1 mq0_ kq0_ (by decide) (by decide) hG_160
              obtain ⟨E_173, hE_173⟩ : ∃ E : Int, cEq fr_163 a0_ E := ⟨_, rfl⟩
              have mxE_173 : E_173 ≤ 1202 := by have h9 := cF_le g ma0_ ka0_; have h8 : cF _ _ = _ := hE_173; omega
              have lE_173 : (cF f0 a0_) + 1 ≤ E_173 := by have h9 := hx_166; have h8 : cF _ _ = _ := hE_173; have h7 : cF _ _ = _ := hG_158; have h6 := hs_162; have h5 := tk_c (f := fr_69) (t := a0_); omega
              have b_174 : bd 0 1200 t_ := eqX rfl bt_ h_167 (by decide)
              have g := g.more hF_170
              refine lv_aload_n hx hb dX14_readUnary_61 rfl (lv_at hl 2 rfl) ?_
              have qc__175 : cF fr_163 a0_ = _ := hE_173
              have go_ := g
              refine g_callXi (As := []) (rest := []) ⟨hx, hb, hml, hown, hts⟩ (ih.2.1 l dC dI L kd tys fr_163 H.size g.2.2.2.1 adK adV a0_ ma0_ ka0_ q0_ mq0_ kq0_ V_ o_ bo_ x_61 (bd_sub h_62 (by decide)) x_168 h_169 hG_172 hwf ho (by omega) (K_ - cl_0) (by omega) (by have h9_0 := bo_; unfold bd at h9_0; have h9_1 := b_67; unfold bd at h9_1; have h9_2 := b_174; unfold bd at h9_2; have h9_3 := h_14; unfold bd at h9_3; have h9_4 := h_169; unfold bd at h9_4; have h9_5 := h_50; unfold bd at h9_5; have h9_6 := bx_54; unfold bd at h9_6; have h9_7 := h_62; unfold bd at h9_7; have h9_8 := h_73; unfold bd at h9_8; omega) (g.fcts [3, 4, 1, 0] rfl)) (cwV 0 hts (gV_ t_2468 t_2470 t_114 t_198 t_2471) rfl rfl rfl (by decide +kernel) ⟨(show N + 24 + 1 ≤ N + 1 + 24 by omega), (show 8 + (4 + 11) + (60 * N + 700) ≤ 60 * (N + 1) + 700 by omega)⟩) (pre3VA g hK hAm ma0_ ka0_ (by decide) (q := (RX14, TX14, 67)) rfl) rfl hl.1 rfl (lv_room (Nat.le_of_ble_eq_true rfl)) dX14_readUnary_62 (cl_k (K := K_) (k := K_ - cl_0) (show cl_0 + (K_ - cl_0) ≤ K_ by omega)) g hK (by decide) (by decide) (fx' := [(14, 2, a0_, .ref q0_), (14, 16, a0_, .int o_)]) rfl (fun xr_176 fr_176 H locs kr_176 cr_176 ecr_176 mxr_176 kxr_176 hp hMr_176 g => ?_) (fun r_176 fr_176 H locs kr_176 cr_176 ecr_176 hp hMr_176 g => ?_)
              · subst hQ
                exact leavesX hempty hlocks (fun t ht hW => g_thrX g hK mxr_176 kxr_176 (by omega) ht hW) g.2.2.1.2.2
              · obtain ⟨hx_177, x_178, h_179, hF_180⟩ := hp
                obtain ⟨V_181, E_182, hV_183, hF_184, hE_185, hX_186, hw_187, hv_188, hP_189, hn_190, hk_191, hc_192⟩ := rd_use hx_177 hE_173
                have hF_193 := FR.call (mds := []) (mas := []) hG_171 go_ mq0_ kq0_ rfl hF_184
                have mxE_182 : E_182 ≤ 1202 := by have h9 := cF_le g ma0_ ka0_; have h8 : cF _ _ = _ := hE_185; omega
                have hx_194 := exN.tr exN.rf hX_186
                have hck_195 : cr_176 ≤ K_ := by omega
                have b_196 : bd 0 2499 r_176 := ⟨hv_188.1, (by have h9 := hv_188.2.1; omega)⟩
                have g := g.more hF_180
                refine lv_istore_n (lv' := [(3, .int r_176), (2, .int x_54), (1, .int 7), (0, .ref a0_)]) hx hb dX14_readUnary_65 rfl hl (by decide) rfl (fun ls hl => ?_)
                refine lv_aload_n hx hb dX14_readUnary_66 rfl (lv_at hl 3 rfl) ?_
                refine lv_dup hx hb dX14_readUnary_67 rfl ?_
                refine g_getk (C := RX14) (T := TX14) (N := 67) hx hb hts (mc_ inX14) hown hK g rfl 25 (by decide) rfl (hts _ (List.mem_cons_of_mem _ t_2171)) (fun _ h9 => h9) 0 rfl dX14_readUnary_68 ?_
                refine lv_iconst (v := 1) hx hb dX14_readUnary_71 (by decide) ?_
                have kb_1 : bd 1 1 (1 : Int32) := ⟨by decide, by decide⟩
                refine lv_isub hx hb dX14_readUnary_72 ?_
                refine lv_topi (fun y_197 ey_197 => ?_)
                have ty_197 := sub_bd ey_197 h_62 kb_1 (by decide)
                have b_198 : bd 0 39 y_197 := sub_rg ty_197 h_62 kb_1 (by decide)
                have go_ := g
                refine g_put (C := RX14) (T := TX14) (N := 67) hx hb hts (mc_ inX14) tyX14 tyX14_ok nmX14 hown hK g ma0_ ka0_ (by decide) rfl 25 (by decide) (hts _ (List.mem_cons_of_mem _ t_2171)) (fun _ h9 => h9) rfl rfl (okV_i (bd_sub b_198 (by decide))) rfl rfl (by decide) (Or.inr (Or.inl (by decide))) (fx' := [(14, 10, a0_, .int x_178), (14, 2, a0_, .ref q0_), (14, 16, a0_, .int o_)]) rfl dX14_readUnary_73 (fun f H locs hM_199 g => ?_)
                have hG_200 := isV.frame hM_199 go_.2.2.2.1 mq0_ kq0_ (by decide) (by decide) hV_183
                have hG_201 := FR.frame hM_199 go_.2.2.2.1 mq0_ kq0_ (by decide) (by decide) hF_193
                have hG_202 := cEq.frame hM_199 go_.2.2.2.1 ma0_ ka0_ (by decide) (by decide) hE_185
                refine lv_aload_n hx hb dX14_readUnary_76 rfl (lv_at hl 3 rfl) ?_
                refine lv_aload_n hx hb dX14_readUnary_77 rfl (lv_at hl 3 rfl) ?_
                refine g_getk (C := RX14) (T := TX14) (N := 67) hx hb hts (mc_ inX14) hown hK g rfl 2 (by decide) rfl (hts _ (List.mem_cons_of_mem _ t_2148)) (fun _ h9 => h9) 2 rfl dX14_readUnary_78 ?_
                refine g_getr (K := 205) (C := RX12) (T := TX12) (N := 60) hx hb hts (mc_ inX12) hown hK g mq0_ kq0_ (by decide) rfl 51 (by decide) rfl (hts _ (List.mem_cons_of_mem _ t_2006)) (fun _ h9 => h9) rfl dX14_readUnary_81 (fun a_203 ma_203 ka_203 g => ?_)
                refine lv_iload_n hx hb dX14_readUnary_84 rfl (lv_at hl 0 rfl) ?_
                refine g_iald hx hb hK g ma_203 ka_203 (by decide) rfl (in_bd b_196 (by decide)) dX14_readUnary_85 (fun x_204 bx_204 cx_204 => ?_)
                have vx_204 : x_204 = V_181.i 51 r_176.toNatClampNeg := hG_200.at g 0 rfl rfl cx_204
                have b_205 : bd 1 12 x_204 := ev_hb hw_187 hv_188 vx_204
                refine lv_bipush (v := 12) hx hb dX14_readUnary_86 (by decide) ?_
                have kb_12 : bd 12 12 (12 : Int32) := ⟨by decide, by decide⟩
                refine lv_icmp_ge (tgt := 95) hx hb dX14_readUnary_88 (by decide) (fun c_206 => ?_) (fun c_206 => ?_)
                · have fc_206 := le_f c_206
                  have b_207 : bd 12 12 x_204 := leR fc_206 kb_12 b_205 (by decide)
                  refine lv_iconst (v := 0) hx hb dX14_readUnary_95 (by decide) ?_
                  refine lv_bipush (v := 7) hx hb dX14_readUnary_96 (by decide) ?_
                  refine lv_iload_n hx hb dX14_readUnary_98 rfl (lv_at hl 1 rfl) ?_
                  have kb_0 : bd 0 0 (0 : Int32) := ⟨by decide, by decide⟩
                  have go_ := g
                  refine g_callEv (As := [.int 0, .int 7, .int x_54]) (rest := []) ⟨hx, hb, hml, hown, hts⟩ (r_X14_need_2 l dC dI L kd tys f H.size g.2.2.2.1 a0_ ma0_ ka0_ 0 kb_0 7 x_54) (cwV 3 hts (gV_ t_2403 t_2405 t_100 t_198 t_2406) rfl rfl rfl (by decide +kernel) ⟨(show 1 + 1 ≤ N + 1 + 24 by omega), (show 8 + (4 + 11) + 22 ≤ 60 * (N + 1) + 700 by omega)⟩) (pre3V g hK ma0_ ka0_ (by decide) (q := (RX14, TX14, 67)) rfl) rfl hl.1 rfl (lv_room (Nat.le_of_ble_eq_true rfl)) dX14_readUnary_99 (cl_f hck_195) g hK (by decide) (by decide) (fx' := [(12, 51, q0_, .ref a_203), (14, 25, a0_, .int y_197), (14, 10, a0_, .int x_178), (14, 2, a0_, .ref q0_), (14, 16, a0_, .int o_)]) rfl (fun xr_208 fr_208 H locs mxr_208 kxr_208 hp hMr_208 g => ?_) (fun fr_208 H locs hp hMr_208 g => ?_)
                  · have hG_209 := isV.frame hMr_208 go_.2.2.2.1 mq0_ kq0_ (by decide) (by decide) hG_200
                    have hG_210 := FR.frame hMr_208 go_.2.2.2.1 mq0_ kq0_ (by decide) (by decide) hG_201
                    have hG_211 := cEq.frame hMr_208 go_.2.2.2.1 ma0_ ka0_ (by decide) (by decide) hG_202
                    subst hQ
                    exact leavesX hempty hlocks (fun t ht hW => g_thrX g hK mxr_208 kxr_208 (by omega) ht hW) g.2.2.1.2.2
                  · exact hp.elim
                · have fc_206 := nle_f c_206
                  have b_212 : bd 1 11 x_204 := ltL fc_206 b_205 kb_12 (by decide)
                  refine lv_iconst (v := 1) hx hb dX14_readUnary_91 (by decide) ?_
                  refine lv_goto (tgt := 96) hx hb dX14_readUnary_92 (by decide) ?_
                  refine lv_bipush (v := 7) hx hb dX14_readUnary_96 (by decide) ?_
                  refine lv_iload_n hx hb dX14_readUnary_98 rfl (lv_at hl 1 rfl) ?_
                  have go_ := g
                  refine g_callEv (As := [.int 1, .int 7, .int x_54]) (rest := []) ⟨hx, hb, hml, hown, hts⟩ (r_X14_need_3 l dC dI L kd tys f H.size g.2.2.2.1 a0_ ma0_ ka0_ 1 kb_1 7 x_54) (cwV 3 hts (gV_ t_2403 t_2405 t_100 t_198 t_2406) rfl rfl rfl (by decide +kernel) ⟨(show 0 + 1 ≤ N + 1 + 24 by omega), (show 8 + (4 + 11) + 0 ≤ 60 * (N + 1) + 700 by omega)⟩) (pre3V g hK ma0_ ka0_ (by decide) (q := (RX14, TX14, 67)) rfl) rfl hl.1 rfl (lv_room (Nat.le_of_ble_eq_true rfl)) dX14_readUnary_99 (cl_f hck_195) g hK (by decide) (by decide) (fx' := [(12, 51, q0_, .ref a_203), (14, 25, a0_, .int y_197), (14, 10, a0_, .int x_178), (14, 2, a0_, .ref q0_), (14, 16, a0_, .int o_)]) rfl (fun xr_213 fr_213 H locs mxr_213 kxr_213 hp hMr_213 g => ?_) (fun fr_213 H locs hp hMr_213 g => ?_)
                  · have hG_214 := isV.frame hMr_213 go_.2.2.2.1 mq0_ kq0_ (by decide) (by decide) hG_200
                    have hG_215 := FR.frame hMr_213 go_.2.2.2.1 mq0_ kq0_ (by decide) (by decide) hG_201
                    have hG_216 := cEq.frame hMr_213 go_.2.2.2.1 ma0_ ka0_ (by decide) (by decide) hG_202
                    exact hp.elim
                  · have hG_217 := isV.frame hMr_213 go_.2.2.2.1 mq0_ kq0_ (by decide) (by decide) hG_200
                    have hG_218 := FR.frame hMr_213 go_.2.2.2.1 mq0_ kq0_ (by decide) (by decide) hG_201
                    have hG_219 := cEq.frame hMr_213 go_.2.2.2.1 ma0_ ka0_ (by decide) (by decide) hG_202
                    refine lv_aload_n hx hb dX14_readUnary_102 rfl (lv_at hl 3 rfl) ?_
                    refine lv_iload_n hx hb dX14_readUnary_103 rfl (lv_at hl 2 rfl) ?_
                    refine lv_iload_n hx hb dX14_readUnary_104 rfl (lv_at hl 0 rfl) ?_
                    refine lv_iconst (v := (-1)) hx hb dX14_readUnary_105 (by decide) ?_
                    refine lv_iconst (v := 1) hx hb dX14_readUnary_106 (by decide) ?_
                    refine lv_aload_n hx hb dX14_readUnary_107 rfl (lv_at hl 3 rfl) ?_
                    refine g_getk (C := RX14) (T := TX14) (N := 67) hx hb hts (mc_ inX14) hown hK g rfl 2 (by decide) rfl (hts _ (List.mem_cons_of_mem _ t_2148)) (fun _ h9 => h9) 3 rfl dX14_readUnary_108 ?_
                    refine g_getk (C := RX12) (T := TX12) (N := 60) hx hb hts (mc_ inX12) hown hK g rfl 51 (by decide) rfl (hts _ (List.mem_cons_of_mem _ t_2006)) (fun _ h9 => h9) 0 rfl dX14_readUnary_111 ?_
                    refine lv_iload_n hx hb dX14_readUnary_114 rfl (lv_at hl 0 rfl) ?_
                    refine g_iald hx hb hK g ma_203 ka_203 (by decide) rfl (in_bd b_196 (by decide)) dX14_readUnary_115 (fun x_220 bx_220 cx_220 => ?_)
                    obtain rfl : x_204 = x_220 := el_same cx_204 cx_220 (arr_eq hMr_213 ma_203 ka_203 (by decide) rfl)
                    refine lv_iadd hx hb dX14_readUnary_116 ?_
                    refine lv_topi (fun y_221 ey_221 => ?_)
                    have ty_221 := add_bd ey_221 kb_1 b_212 (by decide)
                    have b_222 : bd 2 12 y_221 := add_rg ty_221 kb_1 b_212 (by decide)
                    have hnb : (V_181.n 57).toInt ≤ 2499 := by omega
                    have go_ := g
                    refine g_calli (va_runV (As := [.int 7, .int r_176, .int (-1), .int y_221]) (rest := []) ⟨hx, hb, hml, hown, hts⟩ (r_X14_node l dC dI L kd tys fr_213 H.size g.2.2.2.1 a0_ ma0_ ka0_ 7 r_176 (-1) y_221 q0_ mq0_ kq0_ o_ bo_ V_181 hG_217 hnb (g.fcts [3, 4] rfl)) (cwV 4 hts (gV_ t_2480 t_2482 t_117 t_198 t_2483) rfl rfl rfl (by decide +kernel) ⟨(show 0 + 1 ≤ N + 1 + 24 by omega), (show 8 + (6 + 11) + 0 ≤ 60 * (N + 1) + 700 by omega)⟩) (pre3V g hK ma0_ ka0_ (by decide) (q := (RX14, TX14, 67)) rfl) rfl rfl hl.1 rfl (lv_room (Nat.le_of_ble_eq_true rfl)) dX14_readUnary_117 (cl_f hck_195)) g hK (by decide) (by decide) (fx' := [(12, 51, q0_, .ref a_203), (14, 25, a0_, .int y_197), (14, 10, a0_, .int x_178), (14, 2, a0_, .ref q0_), (14, 16, a0_, .int o_)]) rfl (fun r_223 fr_223 H locs hp hMr_223 g => ?_)
                    obtain ⟨hx_224, hx_225, h_226, x_227, h_228, hF_229⟩ := hp
                    have hG_230 := cEq.frame hMr_223 go_.2.2.2.1 ma0_ ka0_ (by decide) (by decide) hG_219
                    have hF_231 := FR.call (mds := []) (mas := []) hG_218 go_ mq0_ kq0_ rfl hx_225
                    obtain ⟨V_232, hV_233, hN_234⟩ := hx_224
                    have g := g.more hF_229
                    have hf_235 : fin V_181 V_232 r_223 12 o_ := nd_un hN_234 h_226.1 hw_187 ⟨(by have h9_0 := bo_; unfold bd at h9_0; have h9_1 := b_67; unfold bd at h9_1; have h9_2 := b_196; unfold bd at h9_2; have h9_3 := h_226; unfold bd at h9_3; have h9_4 := b_174; unfold bd at h9_4; have h9_5 := h_14; unfold bd at h9_5; have h9_6 := h_169; unfold bd at h9_6; have h9_7 := h_179; unfold bd at h9_7; have h9_8 := b_212; unfold bd at h9_8; have h9_9 := h_228; unfold bd at h9_9; have h9_10 := h_50; unfold bd at h9_10; have h9_11 := bx_54; unfold bd at h9_11; have h9_12 := h_62; unfold bd at h9_12; have h9_13 := h_73; unfold bd at h9_13; have h9_14 := b_198; unfold bd at h9_14; have h9_15 := b_222; unfold bd at h9_15; have h8_0 := kb_1; unfold bd at h8_0; have h8_1 := kb_12; unfold bd at h8_1; omega), (by have h9_0 := bo_; unfold bd at h9_0; have h9_1 := b_67; unfold bd at h9_1; have h9_2 := b_196; unfold bd at h9_2; have h9_3 := h_226; unfold bd at h9_3; have h9_4 := b_174; unfold bd at h9_4; have h9_5 := h_14; unfold bd at h9_5; have h9_6 := h_169; unfold bd at h9_6; have h9_7 := h_179; unfold bd at h9_7; have h9_8 := b_212; unfold bd at h9_8; have h9_9 := h_228; unfold bd at h9_9; have h9_10 := h_50; unfold bd at h9_10; have h9_11 := bx_54; unfold bd at h9_11; have h9_12 := h_62; unfold bd at h9_12; have h9_13 := h_73; unfold bd at h9_13; have h9_14 := b_198; unfold bd at h9_14; have h9_15 := b_222; unfold bd at h9_15; have h8_0 := kb_1; unfold bd at h8_0; have h8_1 := kb_12; unfold bd at h8_1; omega)⟩ (by have h9_0 := bo_; unfold bd at h9_0; have h9_1 := b_67; unfold bd at h9_1; have h9_2 := b_196; unfold bd at h9_2; have h9_3 := h_226; unfold bd at h9_3; have h9_4 := b_174; unfold bd at h9_4; have h9_5 := h_14; unfold bd at h9_5; have h9_6 := h_169; unfold bd at h9_6; have h9_7 := h_179; unfold bd at h9_7; have h9_8 := b_212; unfold bd at h9_8; have h9_9 := h_228; unfold bd at h9_9; have h9_10 := h_50; unfold bd at h9_10; have h9_11 := bx_54; unfold bd at h9_11; have h9_12 := h_62; unfold bd at h9_12; have h9_13 := h_73; unfold bd at h9_13; have h9_14 := b_198; unfold bd at h9_14; have h9_15 := b_222; unfold bd at h9_15; have h8_0 := kb_1; unfold bd at h8_0; have h8_1 := kb_12; unfold bd at h8_1; omega) (by rw [hx_194.2.2.1 0 (by decide)]; exact ho) (by decide) (EV.at_ hv_188 vx_204) (by have h9_0 := bo_; unfold bd at h9_0; have h9_1 := b_67; unfold bd at h9_1; have h9_2 := b_196; unfold bd at h9_2; have h9_3 := h_226; unfold bd at h9_3; have h9_4 := b_174; unfold bd at h9_4; have h9_5 := h_14; unfold bd at h9_5; have h9_6 := h_169; unfold bd at h9_6; have h9_7 := h_179; unfold bd at h9_7; have h9_8 := b_212; unfold bd at h9_8; have h9_9 := h_228; unfold bd at h9_9; have h9_10 := h_50; unfold bd at h9_10; have h9_11 := bx_54; unfold bd at h9_11; have h9_12 := h_62; unfold bd at h9_12; have h9_13 := h_73; unfold bd at h9_13; have h9_14 := b_198; unfold bd at h9_14; have h9_15 := b_222; unfold bd at h9_15; have h8_0 := kb_1; unfold bd at h8_0; have h8_1 := kb_12; unfold bd at h8_1; omega)
                    have ho_239 : (V_232.i 47 r_223.toNatClampNeg).toInt = 7 := (congrArg Int32.toInt (hN_234).2.2.2.1).trans (by decide)
                    obtain ⟨V_236, hV_237, hf_238, ho_239⟩ : ∃ V1 : PV, isV fr_223 q0_ V1 ∧ fin V_181 V1 r_223 12 o_ ∧ (V1.i 47 r_223.toNatClampNeg).toInt = 7 := ⟨_, hV_233, hf_235, ho_239⟩
                    have hf_238n := hf_238.2.2.2
                    have hx_240 := exN.tr hx_194 hf_238.1
                    have he_241 := exN.ev hf_238.1 hv_188
                    obtain rfl : op_ = y_197 := Int32.toInt_inj.mp (by have h9_0 := bo_; unfold bd at h9_0; have h9_1 := b_67; unfold bd at h9_1; have h9_2 := b_196; unfold bd at h9_2; have h9_3 := h_226; unfold bd at h9_3; have h9_4 := b_174; unfold bd at h9_4; have h9_5 := h_14; unfold bd at h9_5; have h9_6 := h_169; unfold bd at h9_6; have h9_7 := h_179; unfold bd at h9_7; have h9_8 := b_212; unfold bd at h9_8; have h9_9 := h_228; unfold bd at h9_9; have h9_10 := h_50; unfold bd at h9_10; have h9_11 := bx_54; unfold bd at h9_11; have h9_12 := h_62; unfold bd at h9_12; have h9_13 := h_73; unfold bd at h9_13; have h9_14 := b_198; unfold bd at h9_14; have h9_15 := b_222; unfold bd at h9_15; have h8_0 := kb_1; unfold bd at h8_0; have h8_1 := kb_12; unfold bd at h8_1; omega)
                    have h9c : cF fr_223 a0_ = _ := hG_230
                    subst hQ
                    exact iretX (v := r_223) hx hb hr (fun t ht hW => g_retX g hK ⟨_, rfl, ⟨⟨_, hV_237, hF_231, hx_240, hf_238.2.1, hf_238.2.2.1, trivial, (by omega), (by omega), (by omega)⟩, x_178, h_179, (g.fcts [2, 3] rfl)⟩⟩ ht hW) g.2.2.1.2.2 dX14_readUnary_120 hlocks
  · have hG_242 := isV.frame hMr_1 go_.2.2.2.1 mq0_ kq0_ (by decide) (by decide) hV
    have hG_243 := FR.frame hMr_1 go_.2.2.2.1 mq0_ kq0_ (by decide) (by decide) FR.refl
    have hG_244 := cEq.frame hMr_1 go_.2.2.2.1 ma0_ ka0_ (by decide) (by decide) hC_0
    obtain rfl : r_1 = 1 := h_3
    have g := g.more hF_6
    refine lv_if_ne (tgt := 23) hx hb dX14_readUnary_6 (by decide) (fun c_ => ?_) (fun c_ => absurd c_ (by decide))
    refine lv_aload_n hx hb dX14_readUnary_23 rfl (lv_at hl 0 rfl) ?_
    have hs_245 := sE_1 g 0 rfl (by have h9_0 := bo_; unfold bd at h9_0; have h9_1 := bop_; unfold bd at h9_1; have h9_2 := bt_; unfold bd at h9_2; have h9_3 := h_5; unfold bd at h9_3; omega)
    have go_ := g
    refine g_callEv (As := []) (rest := []) ⟨hx, hb, hml, hown, hts⟩ (r_X14_counts_2 l dC dI L kd tys fr_1 H.size g.2.2.2.1 a0_ ma0_ ka0_ q0_ mq0_ kq0_ V_ hG_242 (g.fcts [1] rfl)) (cwV 0 hts (gV_ t_2476 t_2478 t_116 t_198 t_2479) rfl rfl rfl (by decide +kernel) ⟨(show 2 + 1 ≤ N + 1 + 24 by omega), (show 8 + (1 + 11) + 45 ≤ 60 * (N + 1) + 700 by omega)⟩) (pre3V g hK ma0_ ka0_ (by decide) (q := (RX14, TX14, 67)) rfl) rfl hl.1 rfl (lv_room (Nat.le_of_ble_eq_true rfl)) dX14_readUnary_24 (cl_f hck_0) g hK (by decide) (by decide) (fx' := [(14, 6, a0_, .int x_4), (14, 2, a0_, .ref q0_), (14, 16, a0_, .int o_), (14, 25, a0_, .int op_), (14, 10, a0_, .int t_)]) rfl (fun xr_246 fr_246 H locs mxr_246 kxr_246 hp hMr_246 g => ?_) (fun fr_246 H locs hp hMr_246 g => ?_)
    · have hG_247 := cEq.frame hMr_246 go_.2.2.2.1 ma0_ ka0_ (by decide) (by decide) hG_244
      subst hQ
      exact leavesX hempty hlocks (fun t ht hW => g_thrX g hK mxr_246 kxr_246 (by omega) ht hW) g.2.2.1.2.2
    · obtain ⟨hx_248, hx_249, x_250, h_251, hF_252⟩ := hp
      have hG_253 := cEq.frame hMr_246 go_.2.2.2.1 ma0_ ka0_ (by decide) (by decide) hG_244
      have hF_254 := FR.call (mds := []) (mas := []) hG_243 go_ mq0_ kq0_ rfl hx_249
      have g := g.more hF_252
      refine lv_aload_n hx hb dX14_readUnary_27 rfl (lv_at hl 0 rfl) ?_
      refine lv_aload_n hx hb dX14_readUnary_28 rfl (lv_at hl 0 rfl) ?_
      refine g_geti (C := RX14) (T := TX14) (N := 67) hx hb hts (mc_ inX14) hown hK g ma0_ ka0_ (by decide) rfl 8 (by decide) rfl (hts _ (List.mem_cons_of_mem _ t_2154)) (fun _ h9 => h9) rfl dX14_readUnary_29 (fun x_255 bx_255 g => ?_)
      have hs_256 := sE_1 g 2 rfl (by have h9_0 := bo_; unfold bd at h9_0; have h9_1 := bop_; unfold bd at h9_1; have h9_2 := bt_; unfold bd at h9_2; have h9_3 := h_251; unfold bd at h9_3; have h9_4 := bx_255; unfold bd at h9_4; have h9_5 := h_5; unfold bd at h9_5; omega)
      have go_ := g
      refine g_callEv (As := [.int x_255]) (rest := []) ⟨hx, hb, hml, hown, hts⟩ (r_X14_opens_2 l dC dI L kd tys fr_246 H.size g.2.2.2.1 a0_ ma0_ ka0_ x_255 op_ bop_ (g.fcts [5] rfl)) (cwV 1 hts (gV_ t_2488 t_2490 t_119 t_198 t_2491) rfl rfl rfl (by decide +kernel) ⟨(show 2 + 1 ≤ N + 1 + 24 by omega), (show 8 + (2 + 11) + 45 ≤ 60 * (N + 1) + 700 by omega)⟩) (pre3V g hK ma0_ ka0_ (by decide) (q := (RX14, TX14, 67)) rfl) rfl hl.1 rfl (lv_room (Nat.le_of_ble_eq_true rfl)) dX14_readUnary_32 (cl_f hck_0) g hK (by decide) (by decide) (fx' := [(14, 8, a0_, .int x_255), (12, 58, q0_, .int x_250), (14, 6, a0_, .int x_4), (14, 2, a0_, .ref q0_), (14, 16, a0_, .int o_), (14, 10, a0_, .int t_)]) rfl (fun xr_257 fr_257 H locs mxr_257 kxr_257 hp hMr_257 g => ?_) (fun fr_257 H locs hp hMr_257 g => ?_)
      · have hG_258 := cEq.frame hMr_257 go_.2.2.2.1 ma0_ ka0_ (by decide) (by decide) hG_253
        have hG_259 := FR.frame hMr_257 go_.2.2.2.1 mq0_ kq0_ (by decide) (by decide) hF_254
        have hG_260 := isV.frame hMr_257 go_.2.2.2.1 mq0_ kq0_ (by decide) (by decide) hx_248
        subst hQ
        exact leavesX hempty hlocks (fun t ht hW => g_thrX g hK mxr_257 kxr_257 (by omega) ht hW) g.2.2.1.2.2
      · obtain ⟨h_261, x_262, ⟨h_263, rh_263⟩, hF_264⟩ := hp
        have hG_265 := cEq.frame hMr_257 go_.2.2.2.1 ma0_ ka0_ (by decide) (by decide) hG_253
        have hG_266 := FR.frame hMr_257 go_.2.2.2.1 mq0_ kq0_ (by decide) (by decide) hF_254
        have hG_267 := isV.frame hMr_257 go_.2.2.2.1 mq0_ kq0_ (by decide) (by decide) hx_248
        have b_268 : bd 0 39 op_ := eqX rfl bop_ h_261 (by decide)
        have g := g.more hF_264
        refine lv_aload_n hx hb dX14_readUnary_35 rfl (lv_at hl 0 rfl) ?_
        refine lv_bipush (v := 45) hx hb dX14_readUnary_36 (by decide) ?_
        have hs_269 := sE_1 g 3 rfl (by have h9_0 := bo_; unfold bd at h9_0; have h9_1 := b_268; unfold bd at h9_1; have h9_2 := bt_; unfold bd at h9_2; have h9_3 := h_251; unfold bd at h9_3; have h9_4 := bx_255; unfold bd at h9_4; have h9_5 := h_263; unfold bd at h9_5; have h9_6 := h_5; unfold bd at h9_6; omega)
        have go_ := g
        refine g_calli (va_runV (As := [.int 45]) (rest := []) ⟨hx, hb, hml, hown, hts⟩ (r_X14_isSign l dC dI L kd tys fr_257 H.size g.2.2.2.1 a0_ ma0_ ka0_ 45) (cwV 1 hts (gV_ t_2435 t_2437 t_108 t_198 t_2438) rfl rfl rfl (by decide +kernel) ⟨(show 0 + 1 ≤ N + 1 + 24 by omega), (show 8 + (2 + 11) + 0 ≤ 60 * (N + 1) + 700 by omega)⟩) (pre3V g hK ma0_ ka0_ (by decide) (q := (RX14, TX14, 67)) rfl) rfl rfl hl.1 rfl (lv_room (Nat.le_of_ble_eq_true rfl)) dX14_readUnary_38 (cl_f hck_0)) g hK (by decide) (by decide) (fx' := [(14, 25, a0_, .int x_262), (14, 8, a0_, .int x_255), (12, 58, q0_, .int x_250), (14, 6, a0_, .int x_4), (14, 2, a0_, .ref q0_), (14, 16, a0_, .int o_), (14, 10, a0_, .int t_)]) rfl (fun r_270 fr_270 H locs hp hMr_270 g => ?_)
        rcases hp with ⟨h_271, -⟩ | ⟨h_272, x_273, h_274, hF_275⟩
        · have hG_276 := cEq.frame hMr_270 go_.2.2.2.1 ma0_ ka0_ (by decide) (by decide) hG_265
          have hG_277 := FR.frame hMr_270 go_.2.2.2.1 mq0_ kq0_ (by decide) (by decide) hG_266
          have hG_278 := isV.frame hMr_270 go_.2.2.2.1 mq0_ kq0_ (by decide) (by decide) hG_267
          obtain rfl : r_270 = 0 := h_271
          refine lv_if_eq (tgt := 49) hx hb dX14_readUnary_41 (by decide) (fun c_ => ?_) (fun c_ => absurd (by decide) c_)
          refine lv_bipush (v := 8) hx hb dX14_readUnary_49 (by decide) ?_
          refine lv_istore_n (lv' := [(1, .int 8), (0, .ref a0_)]) hx hb dX14_readUnary_51 rfl hl (by decide) rfl (fun ls hl => ?_)
          refine lv_aload_n hx hb dX14_readUnary_52 rfl (lv_at hl 1 rfl) ?_
          refine g_getk (C := RX14) (T := TX14) (N := 67) hx hb hts (mc_ inX14) hown hK g rfl 8 (by decide) rfl (hts _ (List.mem_cons_of_mem _ t_2154)) (fun _ h9 => h9) 1 rfl dX14_readUnary_53 ?_
          refine lv_istore_n (lv' := [(2, .int x_255), (1, .int 8), (0, .ref a0_)]) hx hb dX14_readUnary_56 rfl hl (by decide) rfl (fun ls hl => ?_)
          refine lv_aload_n hx hb dX14_readUnary_57 rfl (lv_at hl 2 rfl) ?_
          have hs_279 := sE_1 g 3 rfl (by have h9_0 := bo_; unfold bd at h9_0; have h9_1 := b_268; unfold bd at h9_1; have h9_2 := bt_; unfold bd at h9_2; have h9_3 := h_251; unfold bd at h9_3; have h9_4 := bx_255; unfold bd at h9_4; have h9_5 := h_263; unfold bd at h9_5; have h9_6 := h_5; unfold bd at h9_6; omega)
          have go_ := g
          refine g_callEv (As := []) (rest := []) ⟨hx, hb, hml, hown, hts⟩ (r_X14_next_2 l dC dI L kd tys fr_270 H.size g.2.2.2.1 adK adV a0_ ma0_ ka0_ t_ bt_ (g.fcts [6] rfl)) (cwV 0 hts (gV_ t_2411 t_2413 t_102 t_198 t_2414) rfl rfl rfl (by decide +kernel) ⟨(show 6 + 1 ≤ N + 1 + 24 by omega), (show 8 + (1 + 11) + 135 ≤ 60 * (N + 1) + 700 by omega)⟩) (pre3VA g hK hAm ma0_ ka0_ (by decide) (q := (RX14, TX14, 67)) rfl) rfl hl.1 rfl (lv_room (Nat.le_of_ble_eq_true rfl)) dX14_readUnary_58 (cl_f hck_0) g hK (by decide) (by decide) (fx' := [(14, 25, a0_, .int x_262), (12, 58, q0_, .int x_250), (14, 2, a0_, .ref q0_), (14, 16, a0_, .int o_)]) rfl (fun xr_280 fr_280 H locs mxr_280 kxr_280 hp hMr_280 g => ?_) (fun fr_280 H locs hp hMr_280 g => ?_)
          · have hG_281 := FR.frame hMr_280 go_.2.2.2.1 mq0_ kq0_ (by decide) (by decide) hG_277
            have hG_282 := isV.frame hMr_280 go_.2.2.2.1 mq0_ kq0_ (by decide) (by decide) hG_278
            subst hQ
            exact leavesX hempty hlocks (fun t ht hW => g_thrX g hK mxr_280 kxr_280 (by omega) ht hW) g.2.2.1.2.2
          · obtain ⟨hx_283, h_284, x_285, h_286, hF_287⟩ := hp
            have hG_288 := FR.frame hMr_280 go_.2.2.2.1 mq0_ kq0_ (by decide) (by decide) hG_277
            have hG_289 := isV.frame hMr_280 go_.2.2.2.1 mq0_ kq0_ (by decide) (by decide) hG_278
            obtain ⟨E_290, hE_290⟩ : ∃ E : Int, cEq fr_280 a0_ E := ⟨_, rfl⟩
            have mxE_290 : E_290 ≤ 1202 := by have h9 := cF_le g ma0_ ka0_; have h8 : cF _ _ = _ := hE_290; omega
            have lE_290 : (cF f0 a0_) + 1 ≤ E_290 := by have h9 := hx_283; have h8 : cF _ _ = _ := hE_290; have h7 : cF _ _ = _ := hG_276; have h6 := hs_279; have h5 := tk_c (f := fr_270) (t := a0_); omega
            have b_291 : bd 0 1200 t_ := eqX rfl bt_ h_284 (by decide)
            have g := g.more hF_287
            refine lv_aload_n hx hb dX14_readUnary_61 rfl (lv_at hl 2 rfl) ?_
            have qc__292 : cF fr_280 a0_ = _ := hE_290
            have go_ := g
            refine g_callXi (As := []) (rest := []) ⟨hx, hb, hml, hown, hts⟩ (ih.2.1 l dC dI L kd tys fr_280 H.size g.2.2.2.1 adK adV a0_ ma0_ ka0_ q0_ mq0_ kq0_ V_ o_ bo_ x_262 (bd_sub h_263 (by decide)) x_285 h_286 hG_289 hwf ho (by omega) (K_ - cl_0) (by omega) (by have h9_0 := bo_; unfold bd at h9_0; have h9_1 := b_268; unfold bd at h9_1; have h9_2 := b_291; unfold bd at h9_2; have h9_3 := h_251; unfold bd at h9_3; have h9_4 := bx_255; unfold bd at h9_4; have h9_5 := h_263; unfold bd at h9_5; have h9_6 := h_286; unfold bd at h9_6; have h9_7 := h_5; unfold bd at h9_7; omega) (g.fcts [3, 4, 1, 0] rfl)) (cwV 0 hts (gV_ t_2468 t_2470 t_114 t_198 t_2471) rfl rfl rfl (by decide +kernel) ⟨(show N + 24 + 1 ≤ N + 1 + 24 by omega), (show 8 + (4 + 11) + (60 * N + 700) ≤ 60 * (N + 1) + 700 by omega)⟩) (pre3VA g hK hAm ma0_ ka0_ (by decide) (q := (RX14, TX14, 67)) rfl) rfl hl.1 rfl (lv_room (Nat.le_of_ble_eq_true rfl)) dX14_readUnary_62 (cl_k (K := K_) (k := K_ - cl_0) (show cl_0 + (K_ - cl_0) ≤ K_ by omega)) g hK (by decide) (by decide) (fx' := [(14, 2, a0_, .ref q0_), (14, 16, a0_, .int o_)]) rfl (fun xr_293 fr_293 H locs kr_293 cr_293 ecr_293 mxr_293 kxr_293 hp hMr_293 g => ?_) (fun r_293 fr_293 H locs kr_293 cr_293 ecr_293 hp hMr_293 g => ?_)
            · subst hQ
              exact leavesX hempty hlocks (fun t ht hW => g_thrX g hK mxr_293 kxr_293 (by omega) ht hW) g.2.2.1.2.2
            · obtain ⟨hx_294, x_295, h_296, hF_297⟩ := hp
              obtain ⟨V_298, E_299, hV_300, hF_301, hE_302, hX_303, hw_304, hv_305, hP_306, hn_307, hk_308, hc_309⟩ := rd_use hx_294 hE_290
              have hF_310 := FR.call (mds := []) (mas := []) hG_288 go_ mq0_ kq0_ rfl hF_301
              have mxE_299 : E_299 ≤ 1202 := by have h9 := cF_le g ma0_ ka0_; have h8 : cF _ _ = _ := hE_302; omega
              have hx_311 := exN.tr exN.rf hX_303
              have hck_312 : cr_293 ≤ K_ := by omega
              have b_313 : bd 0 2499 r_293 := ⟨hv_305.1, (by have h9 := hv_305.2.1; omega)⟩
              have g := g.more hF_297
              refine lv_istore_n (lv' := [(3, .int r_293), (2, .int x_255), (1, .int 8), (0, .ref a0_)]) hx hb dX14_readUnary_65 rfl hl (by decide) rfl (fun ls hl => ?_)
              refine lv_aload_n hx hb dX14_readUnary_66 rfl (lv_at hl 3 rfl) ?_
              refine lv_dup hx hb dX14_readUnary_67 rfl ?_
              refine g_getk (C := RX14) (T := TX14) (N := 67) hx hb hts (mc_ inX14) hown hK g rfl 25 (by decide) rfl (hts _ (List.mem_cons_of_mem _ t_2171)) (fun _ h9 => h9) 0 rfl dX14_readUnary_68 ?_
              refine lv_iconst (v := 1) hx hb dX14_readUnary_71 (by decide) ?_
              have kb_1 : bd 1 1 (1 : Int32) := ⟨by decide, by decide⟩
              refine lv_isub hx hb dX14_readUnary_72 ?_
              refine lv_topi (fun y_314 ey_314 => ?_)
              have ty_314 := sub_bd ey_314 h_263 kb_1 (by decide)
              have b_315 : bd 0 39 y_314 := sub_rg ty_314 h_263 kb_1 (by decide)
              have go_ := g
              refine g_put (C := RX14) (T := TX14) (N := 67) hx hb hts (mc_ inX14) tyX14 tyX14_ok nmX14 hown hK g ma0_ ka0_ (by decide) rfl 25 (by decide) (hts _ (List.mem_cons_of_mem _ t_2171)) (fun _ h9 => h9) rfl rfl (okV_i (bd_sub b_315 (by decide))) rfl rfl (by decide) (Or.inr (Or.inl (by decide))) (fx' := [(14, 10, a0_, .int x_295), (14, 2, a0_, .ref q0_), (14, 16, a0_, .int o_)]) rfl dX14_readUnary_73 (fun f H locs hM_316 g => ?_)
              have hG_317 := isV.frame hM_316 go_.2.2.2.1 mq0_ kq0_ (by decide) (by decide) hV_300
              have hG_318 := FR.frame hM_316 go_.2.2.2.1 mq0_ kq0_ (by decide) (by decide) hF_310
              have hG_319 := cEq.frame hM_316 go_.2.2.2.1 ma0_ ka0_ (by decide) (by decide) hE_302
              refine lv_aload_n hx hb dX14_readUnary_76 rfl (lv_at hl 3 rfl) ?_
              refine lv_aload_n hx hb dX14_readUnary_77 rfl (lv_at hl 3 rfl) ?_
              refine g_getk (C := RX14) (T := TX14) (N := 67) hx hb hts (mc_ inX14) hown hK g rfl 2 (by decide) rfl (hts _ (List.mem_cons_of_mem _ t_2148)) (fun _ h9 => h9) 2 rfl dX14_readUnary_78 ?_
              refine g_getr (K := 205) (C := RX12) (T := TX12) (N := 60) hx hb hts (mc_ inX12) hown hK g mq0_ kq0_ (by decide) rfl 51 (by decide) rfl (hts _ (List.mem_cons_of_mem _ t_2006)) (fun _ h9 => h9) rfl dX14_readUnary_81 (fun a_320 ma_320 ka_320 g => ?_)
              refine lv_iload_n hx hb dX14_readUnary_84 rfl (lv_at hl 0 rfl) ?_
              refine g_iald hx hb hK g ma_320 ka_320 (by decide) rfl (in_bd b_313 (by decide)) dX14_readUnary_85 (fun x_321 bx_321 cx_321 => ?_)
              have vx_321 : x_321 = V_298.i 51 r_293.toNatClampNeg := hG_317.at g 0 rfl rfl cx_321
              have b_322 : bd 1 12 x_321 := ev_hb hw_304 hv_305 vx_321
              refine lv_bipush (v := 12) hx hb dX14_readUnary_86 (by decide) ?_
              have kb_12 : bd 12 12 (12 : Int32) := ⟨by decide, by decide⟩
              refine lv_icmp_ge (tgt := 95) hx hb dX14_readUnary_88 (by decide) (fun c_323 => ?_) (fun c_323 => ?_)
              · have fc_323 := le_f c_323
                have b_324 : bd 12 12 x_321 := leR fc_323 kb_12 b_322 (by decide)
                refine lv_iconst (v := 0) hx hb dX14_readUnary_95 (by decide) ?_
                refine lv_bipush (v := 7) hx hb dX14_readUnary_96 (by decide) ?_
                refine lv_iload_n hx hb dX14_readUnary_98 rfl (lv_at hl 1 rfl) ?_
                have kb_0 : bd 0 0 (0 : Int32) := ⟨by decide, by decide⟩
                have go_ := g
                refine g_callEv (As := [.int 0, .int 7, .int x_255]) (rest := []) ⟨hx, hb, hml, hown, hts⟩ (r_X14_need_2 l dC dI L kd tys f H.size g.2.2.2.1 a0_ ma0_ ka0_ 0 kb_0 7 x_255) (cwV 3 hts (gV_ t_2403 t_2405 t_100 t_198 t_2406) rfl rfl rfl (by decide +kernel) ⟨(show 1 + 1 ≤ N + 1 + 24 by omega), (show 8 + (4 + 11) + 22 ≤ 60 * (N + 1) + 700 by omega)⟩) (pre3V g hK ma0_ ka0_ (by decide) (q := (RX14, TX14, 67)) rfl) rfl hl.1 rfl (lv_room (Nat.le_of_ble_eq_true rfl)) dX14_readUnary_99 (cl_f hck_312) g hK (by decide) (by decide) (fx' := [(12, 51, q0_, .ref a_320), (14, 25, a0_, .int y_314), (14, 10, a0_, .int x_295), (14, 2, a0_, .ref q0_), (14, 16, a0_, .int o_)]) rfl (fun xr_325 fr_325 H locs mxr_325 kxr_325 hp hMr_325 g => ?_) (fun fr_325 H locs hp hMr_325 g => ?_)
                · have hG_326 := isV.frame hMr_325 go_.2.2.2.1 mq0_ kq0_ (by decide) (by decide) hG_317
                  have hG_327 := FR.frame hMr_325 go_.2.2.2.1 mq0_ kq0_ (by decide) (by decide) hG_318
                  have hG_328 := cEq.frame hMr_325 go_.2.2.2.1 ma0_ ka0_ (by decide) (by decide) hG_319
                  subst hQ
                  exact leavesX hempty hlocks (fun t ht hW => g_thrX g hK mxr_325 kxr_325 (by omega) ht hW) g.2.2.1.2.2
                · exact hp.elim
              · have fc_323 := nle_f c_323
                have b_329 : bd 1 11 x_321 := ltL fc_323 b_322 kb_12 (by decide)
                refine lv_iconst (v := 1) hx hb dX14_readUnary_91 (by decide) ?_
                refine lv_goto (tgt := 96) hx hb dX14_readUnary_92 (by decide) ?_
                refine lv_bipush (v := 7) hx hb dX14_readUnary_96 (by decide) ?_
                refine lv_iload_n hx hb dX14_readUnary_98 rfl (lv_at hl 1 rfl) ?_
                have go_ := g
                refine g_callEv (As := [.int 1, .int 7, .int x_255]) (rest := []) ⟨hx, hb, hml, hown, hts⟩ (r_X14_need_3 l dC dI L kd tys f H.size g.2.2.2.1 a0_ ma0_ ka0_ 1 kb_1 7 x_255) (cwV 3 hts (gV_ t_2403 t_2405 t_100 t_198 t_2406) rfl rfl rfl (by decide +kernel) ⟨(show 0 + 1 ≤ N + 1 + 24 by omega), (show 8 + (4 + 11) + 0 ≤ 60 * (N + 1) + 700 by omega)⟩) (pre3V g hK ma0_ ka0_ (by decide) (q := (RX14, TX14, 67)) rfl) rfl hl.1 rfl (lv_room (Nat.le_of_ble_eq_true rfl)) dX14_readUnary_99 (cl_f hck_312) g hK (by decide) (by decide) (fx' := [(12, 51, q0_, .ref a_320), (14, 25, a0_, .int y_314), (14, 10, a0_, .int x_295), (14, 2, a0_, .ref q0_), (14, 16, a0_, .int o_)]) rfl (fun xr_330 fr_330 H locs mxr_330 kxr_330 hp hMr_330 g => ?_) (fun fr_330 H locs hp hMr_330 g => ?_)
                · have hG_331 := isV.frame hMr_330 go_.2.2.2.1 mq0_ kq0_ (by decide) (by decide) hG_317
                  have hG_332 := FR.frame hMr_330 go_.2.2.2.1 mq0_ kq0_ (by decide) (by decide) hG_318
                  have hG_333 := cEq.frame hMr_330 go_.2.2.2.1 ma0_ ka0_ (by decide) (by decide) hG_319
                  exact hp.elim
                · have hG_334 := isV.frame hMr_330 go_.2.2.2.1 mq0_ kq0_ (by decide) (by decide) hG_317
                  have hG_335 := FR.frame hMr_330 go_.2.2.2.1 mq0_ kq0_ (by decide) (by decide) hG_318
                  have hG_336 := cEq.frame hMr_330 go_.2.2.2.1 ma0_ ka0_ (by decide) (by decide) hG_319
                  refine lv_aload_n hx hb dX14_readUnary_102 rfl (lv_at hl 3 rfl) ?_
                  refine lv_iload_n hx hb dX14_readUnary_103 rfl (lv_at hl 2 rfl) ?_
                  refine lv_iload_n hx hb dX14_readUnary_104 rfl (lv_at hl 0 rfl) ?_
                  refine lv_iconst (v := (-1)) hx hb dX14_readUnary_105 (by decide) ?_
                  refine lv_iconst (v := 1) hx hb dX14_readUnary_106 (by decide) ?_
                  refine lv_aload_n hx hb dX14_readUnary_107 rfl (lv_at hl 3 rfl) ?_
                  refine g_getk (C := RX14) (T := TX14) (N := 67) hx hb hts (mc_ inX14) hown hK g rfl 2 (by decide) rfl (hts _ (List.mem_cons_of_mem _ t_2148)) (fun _ h9 => h9) 3 rfl dX14_readUnary_108 ?_
                  refine g_getk (C := RX12) (T := TX12) (N := 60) hx hb hts (mc_ inX12) hown hK g rfl 51 (by decide) rfl (hts _ (List.mem_cons_of_mem _ t_2006)) (fun _ h9 => h9) 0 rfl dX14_readUnary_111 ?_
                  refine lv_iload_n hx hb dX14_readUnary_114 rfl (lv_at hl 0 rfl) ?_
                  refine g_iald hx hb hK g ma_320 ka_320 (by decide) rfl (in_bd b_313 (by decide)) dX14_readUnary_115 (fun x_337 bx_337 cx_337 => ?_)
                  obtain rfl : x_321 = x_337 := el_same cx_321 cx_337 (arr_eq hMr_330 ma_320 ka_320 (by decide) rfl)
                  refine lv_iadd hx hb dX14_readUnary_116 ?_
                  refine lv_topi (fun y_338 ey_338 => ?_)
                  have ty_338 := add_bd ey_338 kb_1 b_329 (by decide)
                  have b_339 : bd 2 12 y_338 := add_rg ty_338 kb_1 b_329 (by decide)
                  have hnb : (V_298.n 57).toInt ≤ 2499 := by omega
                  have go_ := g
                  refine g_calli (va_runV (As := [.int 8, .int r_293, .int (-1), .int y_338]) (rest := []) ⟨hx, hb, hml, hown, hts⟩ (r_X14_node l dC dI L kd tys fr_330 H.size g.2.2.2.1 a0_ ma0_ ka0_ 8 r_293 (-1) y_338 q0_ mq0_ kq0_ o_ bo_ V_298 hG_334 hnb (g.fcts [3, 4] rfl)) (cwV 4 hts (gV_ t_2480 t_2482 t_117 t_198 t_2483) rfl rfl rfl (by decide +kernel) ⟨(show 0 + 1 ≤ N + 1 + 24 by omega), (show 8 + (6 + 11) + 0 ≤ 60 * (N + 1) + 700 by omega)⟩) (pre3V g hK ma0_ ka0_ (by decide) (q := (RX14, TX14, 67)) rfl) rfl rfl hl.1 rfl (lv_room (Nat.le_of_ble_eq_true rfl)) dX14_readUnary_117 (cl_f hck_312)) g hK (by decide) (by decide) (fx' := [(12, 51, q0_, .ref a_320), (14, 25, a0_, .int y_314), (14, 10, a0_, .int x_295), (14, 2, a0_, .ref q0_), (14, 16, a0_, .int o_)]) rfl (fun r_340 fr_340 H locs hp hMr_340 g => ?_)
                  obtain ⟨hx_341, hx_342, h_343, x_344, h_345, hF_346⟩ := hp
                  have hG_347 := cEq.frame hMr_340 go_.2.2.2.1 ma0_ ka0_ (by decide) (by decide) hG_336
                  have hF_348 := FR.call (mds := []) (mas := []) hG_335 go_ mq0_ kq0_ rfl hx_342
                  obtain ⟨V_349, hV_350, hN_351⟩ := hx_341
                  have g := g.more hF_346
                  have hf_352 : fin V_298 V_349 r_340 12 o_ := nd_un hN_351 h_343.1 hw_304 ⟨(by have h9_0 := bo_; unfold bd at h9_0; have h9_1 := b_268; unfold bd at h9_1; have h9_2 := b_313; unfold bd at h9_2; have h9_3 := h_343; unfold bd at h9_3; have h9_4 := b_291; unfold bd at h9_4; have h9_5 := h_251; unfold bd at h9_5; have h9_6 := bx_255; unfold bd at h9_6; have h9_7 := h_263; unfold bd at h9_7; have h9_8 := h_286; unfold bd at h9_8; have h9_9 := h_296; unfold bd at h9_9; have h9_10 := b_329; unfold bd at h9_10; have h9_11 := h_345; unfold bd at h9_11; have h9_12 := h_5; unfold bd at h9_12; have h9_13 := b_315; unfold bd at h9_13; have h9_14 := b_339; unfold bd at h9_14; have h8_0 := kb_1; unfold bd at h8_0; have h8_1 := kb_12; unfold bd at h8_1; omega), (by have h9_0 := bo_; unfold bd at h9_0; have h9_1 := b_268; unfold bd at h9_1; have h9_2 := b_313; unfold bd at h9_2; have h9_3 := h_343; unfold bd at h9_3; have h9_4 := b_291; unfold bd at h9_4; have h9_5 := h_251; unfold bd at h9_5; have h9_6 := bx_255; unfold bd at h9_6; have h9_7 := h_263; unfold bd at h9_7; have h9_8 := h_286; unfold bd at h9_8; have h9_9 := h_296; unfold bd at h9_9; have h9_10 := b_329; unfold bd at h9_10; have h9_11 := h_345; unfold bd at h9_11; have h9_12 := h_5; unfold bd at h9_12; have h9_13 := b_315; unfold bd at h9_13; have h9_14 := b_339; unfold bd at h9_14; have h8_0 := kb_1; unfold bd at h8_0; have h8_1 := kb_12; unfold bd at h8_1; omega)⟩ (by have h9_0 := bo_; unfold bd at h9_0; have h9_1 := b_268; unfold bd at h9_1; have h9_2 := b_313; unfold bd at h9_2; have h9_3 := h_343; unfold bd at h9_3; have h9_4 := b_291; unfold bd at h9_4; have h9_5 := h_251; unfold bd at h9_5; have h9_6 := bx_255; unfold bd at h9_6; have h9_7 := h_263; unfold bd at h9_7; have h9_8 := h_286; unfold bd at h9_8; have h9_9 := h_296; unfold bd at h9_9; have h9_10 := b_329; unfold bd at h9_10; have h9_11 := h_345; unfold bd at h9_11; have h9_12 := h_5; unfold bd at h9_12; have h9_13 := b_315; unfold bd at h9_13; have h9_14 := b_339; unfold bd at h9_14; have h8_0 := kb_1; unfold bd at h8_0; have h8_1 := kb_12; unfold bd at h8_1; omega) (by rw [hx_311.2.2.1 0 (by decide)]; exact ho) (by decide) (EV.at_ hv_305 vx_321) (by have h9_0 := bo_; unfold bd at h9_0; have h9_1 := b_268; unfold bd at h9_1; have h9_2 := b_313; unfold bd at h9_2; have h9_3 := h_343; unfold bd at h9_3; have h9_4 := b_291; unfold bd at h9_4; have h9_5 := h_251; unfold bd at h9_5; have h9_6 := bx_255; unfold bd at h9_6; have h9_7 := h_263; unfold bd at h9_7; have h9_8 := h_286; unfold bd at h9_8; have h9_9 := h_296; unfold bd at h9_9; have h9_10 := b_329; unfold bd at h9_10; have h9_11 := h_345; unfold bd at h9_11; have h9_12 := h_5; unfold bd at h9_12; have h9_13 := b_315; unfold bd at h9_13; have h9_14 := b_339; unfold bd at h9_14; have h8_0 := kb_1; unfold bd at h8_0; have h8_1 := kb_12; unfold bd at h8_1; omega)
                  have ho_356 : (V_349.i 47 r_340.toNatClampNeg).toInt = 8 := (congrArg Int32.toInt (hN_351).2.2.2.1).trans (by decide)
                  obtain ⟨V_353, hV_354, hf_355, ho_356⟩ : ∃ V1 : PV, isV fr_340 q0_ V1 ∧ fin V_298 V1 r_340 12 o_ ∧ (V1.i 47 r_340.toNatClampNeg).toInt = 8 := ⟨_, hV_350, hf_352, ho_356⟩
                  have hf_355n := hf_355.2.2.2
                  have hx_357 := exN.tr hx_311 hf_355.1
                  have he_358 := exN.ev hf_355.1 hv_305
                  obtain rfl : op_ = y_314 := Int32.toInt_inj.mp (by have h9_0 := bo_; unfold bd at h9_0; have h9_1 := b_268; unfold bd at h9_1; have h9_2 := b_313; unfold bd at h9_2; have h9_3 := h_343; unfold bd at h9_3; have h9_4 := b_291; unfold bd at h9_4; have h9_5 := h_251; unfold bd at h9_5; have h9_6 := bx_255; unfold bd at h9_6; have h9_7 := h_263; unfold bd at h9_7; have h9_8 := h_286; unfold bd at h9_8; have h9_9 := h_296; unfold bd at h9_9; have h9_10 := b_329; unfold bd at h9_10; have h9_11 := h_345; unfold bd at h9_11; have h9_12 := h_5; unfold bd at h9_12; have h9_13 := b_315; unfold bd at h9_13; have h9_14 := b_339; unfold bd at h9_14; have h8_0 := kb_1; unfold bd at h8_0; have h8_1 := kb_12; unfold bd at h8_1; omega)
                  have h9c : cF fr_340 a0_ = _ := hG_347
                  subst hQ
                  exact iretX (v := r_340) hx hb hr (fun t ht hW => g_retX g hK ⟨_, rfl, ⟨⟨_, hV_354, hF_348, hx_357, hf_355.2.1, hf_355.2.2.1, trivial, (by omega), (by omega), (by omega)⟩, x_295, h_296, (g.fcts [2, 3] rfl)⟩⟩ ht hW) g.2.2.1.2.2 dX14_readUnary_120 hlocks
        · have hG_359 := cEq.frame hMr_270 go_.2.2.2.1 ma0_ ka0_ (by decide) (by decide) hG_265
          have hG_360 := FR.frame hMr_270 go_.2.2.2.1 mq0_ kq0_ (by decide) (by decide) hG_266
          have hG_361 := isV.frame hMr_270 go_.2.2.2.1 mq0_ kq0_ (by decide) (by decide) hG_267
          obtain rfl : r_270 = 1 := h_272
          have g := g.more hF_275
          have e_362 := fx_same g 4 0 rfl rfl
          have g := g.sub (fx' := [(14, 25, a0_, .int x_262), (14, 8, a0_, .int x_255), (12, 58, q0_, .int x_250), (14, 6, a0_, .int x_4), (14, 2, a0_, .ref q0_), (14, 16, a0_, .int o_), (14, 10, a0_, .int t_)]) [1, 2, 3, 4, 5, 6, 7] rfl
          refine lv_if_eq (tgt := 49) hx hb dX14_readUnary_41 (by decide) (fun c_ => absurd c_ (by decide)) (fun c_ => ?_)
          refine lv_bipush (v := 7) hx hb dX14_readUnary_44 (by decide) ?_
          refine lv_goto (tgt := 51) hx hb dX14_readUnary_46 (by decide) ?_
          refine lv_istore_n (lv' := [(1, .int 7), (0, .ref a0_)]) hx hb dX14_readUnary_51 rfl hl (by decide) rfl (fun ls hl => ?_)
          refine lv_aload_n hx hb dX14_readUnary_52 rfl (lv_at hl 1 rfl) ?_
          refine g_getk (C := RX14) (T := TX14) (N := 67) hx hb hts (mc_ inX14) hown hK g rfl 8 (by decide) rfl (hts _ (List.mem_cons_of_mem _ t_2154)) (fun _ h9 => h9) 1 rfl dX14_readUnary_53 ?_
          refine lv_istore_n (lv' := [(2, .int x_255), (1, .int 7), (0, .ref a0_)]) hx hb dX14_readUnary_56 rfl hl (by decide) rfl (fun ls hl => ?_)
          refine lv_aload_n hx hb dX14_readUnary_57 rfl (lv_at hl 2 rfl) ?_
          have hs_363 := sE_1 g 3 rfl (by have h9_0 := bo_; unfold bd at h9_0; have h9_1 := b_268; unfold bd at h9_1; have h9_2 := bt_; unfold bd at h9_2; have h9_3 := h_251; unfold bd at h9_3; have h9_4 := bx_255; unfold bd at h9_4; have h9_5 := h_263; unfold bd at h9_5; have h9_6 := h_274; unfold bd at h9_6; have h9_7 := h_5; unfold bd at h9_7; omega)
          have go_ := g
          refine g_callEv (As := []) (rest := []) ⟨hx, hb, hml, hown, hts⟩ (r_X14_next_2 l dC dI L kd tys fr_270 H.size g.2.2.2.1 adK adV a0_ ma0_ ka0_ t_ bt_ (g.fcts [6] rfl)) (cwV 0 hts (gV_ t_2411 t_2413 t_102 t_198 t_2414) rfl rfl rfl (by decide +kernel) ⟨(show 6 + 1 ≤ N + 1 + 24 by omega), (show 8 + (1 + 11) + 135 ≤ 60 * (N + 1) + 700 by omega)⟩) (pre3VA g hK hAm ma0_ ka0_ (by decide) (q := (RX14, TX14, 67)) rfl) rfl hl.1 rfl (lv_room (Nat.le_of_ble_eq_true rfl)) dX14_readUnary_58 (cl_f hck_0) g hK (by decide) (by decide) (fx' := [(14, 25, a0_, .int x_262), (12, 58, q0_, .int x_250), (14, 2, a0_, .ref q0_), (14, 16, a0_, .int o_)]) rfl (fun xr_364 fr_364 H locs mxr_364 kxr_364 hp hMr_364 g => ?_) (fun fr_364 H locs hp hMr_364 g => ?_)
          · have hG_365 := FR.frame hMr_364 go_.2.2.2.1 mq0_ kq0_ (by decide) (by decide) hG_360
            have hG_366 := isV.frame hMr_364 go_.2.2.2.1 mq0_ kq0_ (by decide) (by decide) hG_361
            subst hQ
            exact leavesX hempty hlocks (fun t ht hW => g_thrX g hK mxr_364 kxr_364 (by omega) ht hW) g.2.2.1.2.2
          · obtain ⟨hx_367, h_368, x_369, h_370, hF_371⟩ := hp
            have hG_372 := FR.frame hMr_364 go_.2.2.2.1 mq0_ kq0_ (by decide) (by decide) hG_360
            have hG_373 := isV.frame hMr_364 go_.2.2.2.1 mq0_ kq0_ (by decide) (by decide) hG_361
            obtain ⟨E_374, hE_374⟩ : ∃ E : Int, cEq fr_364 a0_ E := ⟨_, rfl⟩
            have mxE_374 : E_374 ≤ 1202 := by have h9 := cF_le g ma0_ ka0_; have h8 : cF _ _ = _ := hE_374; omega
            have lE_374 : (cF f0 a0_) + 1 ≤ E_374 := by have h9 := hx_367; have h8 : cF _ _ = _ := hE_374; have h7 : cF _ _ = _ := hG_359; have h6 := hs_363; have h5 := tk_c (f := fr_270) (t := a0_); omega
            have b_375 : bd 0 1200 t_ := eqX rfl bt_ h_368 (by decide)
            have g := g.more hF_371
            refine lv_aload_n hx hb dX14_readUnary_61 rfl (lv_at hl 2 rfl) ?_
            have qc__376 : cF fr_364 a0_ = _ := hE_374
            have go_ := g
            refine g_callXi (As := []) (rest := []) ⟨hx, hb, hml, hown, hts⟩ (ih.2.1 l dC dI L kd tys fr_364 H.size g.2.2.2.1 adK adV a0_ ma0_ ka0_ q0_ mq0_ kq0_ V_ o_ bo_ x_262 (bd_sub h_263 (by decide)) x_369 h_370 hG_373 hwf ho (by omega) (K_ - cl_0) (by omega) (by have h9_0 := bo_; unfold bd at h9_0; have h9_1 := b_268; unfold bd at h9_1; have h9_2 := b_375; unfold bd at h9_2; have h9_3 := h_251; unfold bd at h9_3; have h9_4 := bx_255; unfold bd at h9_4; have h9_5 := h_263; unfold bd at h9_5; have h9_6 := h_274; unfold bd at h9_6; have h9_7 := h_370; unfold bd at h9_7; have h9_8 := h_5; unfold bd at h9_8; omega) (g.fcts [3, 4, 1, 0] rfl)) (cwV 0 hts (gV_ t_2468 t_2470 t_114 t_198 t_2471) rfl rfl rfl (by decide +kernel) ⟨(show N + 24 + 1 ≤ N + 1 + 24 by omega), (show 8 + (4 + 11) + (60 * N + 700) ≤ 60 * (N + 1) + 700 by omega)⟩) (pre3VA g hK hAm ma0_ ka0_ (by decide) (q := (RX14, TX14, 67)) rfl) rfl hl.1 rfl (lv_room (Nat.le_of_ble_eq_true rfl)) dX14_readUnary_62 (cl_k (K := K_) (k := K_ - cl_0) (show cl_0 + (K_ - cl_0) ≤ K_ by omega)) g hK (by decide) (by decide) (fx' := [(14, 2, a0_, .ref q0_), (14, 16, a0_, .int o_)]) rfl (fun xr_377 fr_377 H locs kr_377 cr_377 ecr_377 mxr_377 kxr_377 hp hMr_377 g => ?_) (fun r_377 fr_377 H locs kr_377 cr_377 ecr_377 hp hMr_377 g => ?_)
            · subst hQ
              exact leavesX hempty hlocks (fun t ht hW => g_thrX g hK mxr_377 kxr_377 (by omega) ht hW) g.2.2.1.2.2
            · obtain ⟨hx_378, x_379, h_380, hF_381⟩ := hp
              obtain ⟨V_382, E_383, hV_384, hF_385, hE_386, hX_387, hw_388, hv_389, hP_390, hn_391, hk_392, hc_393⟩ := rd_use hx_378 hE_374
              have hF_394 := FR.call (mds := []) (mas := []) hG_372 go_ mq0_ kq0_ rfl hF_385
              have mxE_383 : E_383 ≤ 1202 := by have h9 := cF_le g ma0_ ka0_; have h8 : cF _ _ = _ := hE_386; omega
              have hx_395 := exN.tr exN.rf hX_387
              have hck_396 : cr_377 ≤ K_ := by omega
              have b_397 : bd 0 2499 r_377 := ⟨hv_389.1, (by have h9 := hv_389.2.1; omega)⟩
              have g := g.more hF_381
              refine lv_istore_n (lv' := [(3, .int r_377), (2, .int x_255), (1, .int 7), (0, .ref a0_)]) hx hb dX14_readUnary_65 rfl hl (by decide) rfl (fun ls hl => ?_)
              refine lv_aload_n hx hb dX14_readUnary_66 rfl (lv_at hl 3 rfl) ?_
              refine lv_dup hx hb dX14_readUnary_67 rfl ?_
              refine g_getk (C := RX14) (T := TX14) (N := 67) hx hb hts (mc_ inX14) hown hK g rfl 25 (by decide) rfl (hts _ (List.mem_cons_of_mem _ t_2171)) (fun _ h9 => h9) 0 rfl dX14_readUnary_68 ?_
              refine lv_iconst (v := 1) hx hb dX14_readUnary_71 (by decide) ?_
              have kb_1 : bd 1 1 (1 : Int32) := ⟨by decide, by decide⟩
              refine lv_isub hx hb dX14_readUnary_72 ?_
              refine lv_topi (fun y_398 ey_398 => ?_)
              have ty_398 := sub_bd ey_398 h_263 kb_1 (by decide)
              have b_399 : bd 0 39 y_398 := sub_rg ty_398 h_263 kb_1 (by decide)
              have go_ := g
              refine g_put (C := RX14) (T := TX14) (N := 67) hx hb hts (mc_ inX14) tyX14 tyX14_ok nmX14 hown hK g ma0_ ka0_ (by decide) rfl 25 (by decide) (hts _ (List.mem_cons_of_mem _ t_2171)) (fun _ h9 => h9) rfl rfl (okV_i (bd_sub b_399 (by decide))) rfl rfl (by decide) (Or.inr (Or.inl (by decide))) (fx' := [(14, 10, a0_, .int x_379), (14, 2, a0_, .ref q0_), (14, 16, a0_, .int o_)]) rfl dX14_readUnary_73 (fun f H locs hM_400 g => ?_)
              have hG_401 := isV.frame hM_400 go_.2.2.2.1 mq0_ kq0_ (by decide) (by decide) hV_384
              have hG_402 := FR.frame hM_400 go_.2.2.2.1 mq0_ kq0_ (by decide) (by decide) hF_394
              have hG_403 := cEq.frame hM_400 go_.2.2.2.1 ma0_ ka0_ (by decide) (by decide) hE_386
              refine lv_aload_n hx hb dX14_readUnary_76 rfl (lv_at hl 3 rfl) ?_
              refine lv_aload_n hx hb dX14_readUnary_77 rfl (lv_at hl 3 rfl) ?_
              refine g_getk (C := RX14) (T := TX14) (N := 67) hx hb hts (mc_ inX14) hown hK g rfl 2 (by decide) rfl (hts _ (List.mem_cons_of_mem _ t_2148)) (fun _ h9 => h9) 2 rfl dX14_readUnary_78 ?_
              refine g_getr (K := 205) (C := RX12) (T := TX12) (N := 60) hx hb hts (mc_ inX12) hown hK g mq0_ kq0_ (by decide) rfl 51 (by decide) rfl (hts _ (List.mem_cons_of_mem _ t_2006)) (fun _ h9 => h9) rfl dX14_readUnary_81 (fun a_404 ma_404 ka_404 g => ?_)
              refine lv_iload_n hx hb dX14_readUnary_84 rfl (lv_at hl 0 rfl) ?_
              refine g_iald hx hb hK g ma_404 ka_404 (by decide) rfl (in_bd b_397 (by decide)) dX14_readUnary_85 (fun x_405 bx_405 cx_405 => ?_)
              have vx_405 : x_405 = V_382.i 51 r_377.toNatClampNeg := hG_401.at g 0 rfl rfl cx_405
              have b_406 : bd 1 12 x_405 := ev_hb hw_388 hv_389 vx_405
              refine lv_bipush (v := 12) hx hb dX14_readUnary_86 (by decide) ?_
              have kb_12 : bd 12 12 (12 : Int32) := ⟨by decide, by decide⟩
              refine lv_icmp_ge (tgt := 95) hx hb dX14_readUnary_88 (by decide) (fun c_407 => ?_) (fun c_407 => ?_)
              · have fc_407 := le_f c_407
                have b_408 : bd 12 12 x_405 := leR fc_407 kb_12 b_406 (by decide)
                refine lv_iconst (v := 0) hx hb dX14_readUnary_95 (by decide) ?_
                refine lv_bipush (v := 7) hx hb dX14_readUnary_96 (by decide) ?_
                refine lv_iload_n hx hb dX14_readUnary_98 rfl (lv_at hl 1 rfl) ?_
                have kb_0 : bd 0 0 (0 : Int32) := ⟨by decide, by decide⟩
                have go_ := g
                refine g_callEv (As := [.int 0, .int 7, .int x_255]) (rest := []) ⟨hx, hb, hml, hown, hts⟩ (r_X14_need_2 l dC dI L kd tys f H.size g.2.2.2.1 a0_ ma0_ ka0_ 0 kb_0 7 x_255) (cwV 3 hts (gV_ t_2403 t_2405 t_100 t_198 t_2406) rfl rfl rfl (by decide +kernel) ⟨(show 1 + 1 ≤ N + 1 + 24 by omega), (show 8 + (4 + 11) + 22 ≤ 60 * (N + 1) + 700 by omega)⟩) (pre3V g hK ma0_ ka0_ (by decide) (q := (RX14, TX14, 67)) rfl) rfl hl.1 rfl (lv_room (Nat.le_of_ble_eq_true rfl)) dX14_readUnary_99 (cl_f hck_396) g hK (by decide) (by decide) (fx' := [(12, 51, q0_, .ref a_404), (14, 25, a0_, .int y_398), (14, 10, a0_, .int x_379), (14, 2, a0_, .ref q0_), (14, 16, a0_, .int o_)]) rfl (fun xr_409 fr_409 H locs mxr_409 kxr_409 hp hMr_409 g => ?_) (fun fr_409 H locs hp hMr_409 g => ?_)
                · have hG_410 := isV.frame hMr_409 go_.2.2.2.1 mq0_ kq0_ (by decide) (by decide) hG_401
                  have hG_411 := FR.frame hMr_409 go_.2.2.2.1 mq0_ kq0_ (by decide) (by decide) hG_402
                  have hG_412 := cEq.frame hMr_409 go_.2.2.2.1 ma0_ ka0_ (by decide) (by decide) hG_403
                  subst hQ
                  exact leavesX hempty hlocks (fun t ht hW => g_thrX g hK mxr_409 kxr_409 (by omega) ht hW) g.2.2.1.2.2
                · exact hp.elim
              · have fc_407 := nle_f c_407
                have b_413 : bd 1 11 x_405 := ltL fc_407 b_406 kb_12 (by decide)
                refine lv_iconst (v := 1) hx hb dX14_readUnary_91 (by decide) ?_
                refine lv_goto (tgt := 96) hx hb dX14_readUnary_92 (by decide) ?_
                refine lv_bipush (v := 7) hx hb dX14_readUnary_96 (by decide) ?_
                refine lv_iload_n hx hb dX14_readUnary_98 rfl (lv_at hl 1 rfl) ?_
                have go_ := g
                refine g_callEv (As := [.int 1, .int 7, .int x_255]) (rest := []) ⟨hx, hb, hml, hown, hts⟩ (r_X14_need_3 l dC dI L kd tys f H.size g.2.2.2.1 a0_ ma0_ ka0_ 1 kb_1 7 x_255) (cwV 3 hts (gV_ t_2403 t_2405 t_100 t_198 t_2406) rfl rfl rfl (by decide +kernel) ⟨(show 0 + 1 ≤ N + 1 + 24 by omega), (show 8 + (4 + 11) + 0 ≤ 60 * (N + 1) + 700 by omega)⟩) (pre3V g hK ma0_ ka0_ (by decide) (q := (RX14, TX14, 67)) rfl) rfl hl.1 rfl (lv_room (Nat.le_of_ble_eq_true rfl)) dX14_readUnary_99 (cl_f hck_396) g hK (by decide) (by decide) (fx' := [(12, 51, q0_, .ref a_404), (14, 25, a0_, .int y_398), (14, 10, a0_, .int x_379), (14, 2, a0_, .ref q0_), (14, 16, a0_, .int o_)]) rfl (fun xr_414 fr_414 H locs mxr_414 kxr_414 hp hMr_414 g => ?_) (fun fr_414 H locs hp hMr_414 g => ?_)
                · have hG_415 := isV.frame hMr_414 go_.2.2.2.1 mq0_ kq0_ (by decide) (by decide) hG_401
                  have hG_416 := FR.frame hMr_414 go_.2.2.2.1 mq0_ kq0_ (by decide) (by decide) hG_402
                  have hG_417 := cEq.frame hMr_414 go_.2.2.2.1 ma0_ ka0_ (by decide) (by decide) hG_403
                  exact hp.elim
                · have hG_418 := isV.frame hMr_414 go_.2.2.2.1 mq0_ kq0_ (by decide) (by decide) hG_401
                  have hG_419 := FR.frame hMr_414 go_.2.2.2.1 mq0_ kq0_ (by decide) (by decide) hG_402
                  have hG_420 := cEq.frame hMr_414 go_.2.2.2.1 ma0_ ka0_ (by decide) (by decide) hG_403
                  refine lv_aload_n hx hb dX14_readUnary_102 rfl (lv_at hl 3 rfl) ?_
                  refine lv_iload_n hx hb dX14_readUnary_103 rfl (lv_at hl 2 rfl) ?_
                  refine lv_iload_n hx hb dX14_readUnary_104 rfl (lv_at hl 0 rfl) ?_
                  refine lv_iconst (v := (-1)) hx hb dX14_readUnary_105 (by decide) ?_
                  refine lv_iconst (v := 1) hx hb dX14_readUnary_106 (by decide) ?_
                  refine lv_aload_n hx hb dX14_readUnary_107 rfl (lv_at hl 3 rfl) ?_
                  refine g_getk (C := RX14) (T := TX14) (N := 67) hx hb hts (mc_ inX14) hown hK g rfl 2 (by decide) rfl (hts _ (List.mem_cons_of_mem _ t_2148)) (fun _ h9 => h9) 3 rfl dX14_readUnary_108 ?_
                  refine g_getk (C := RX12) (T := TX12) (N := 60) hx hb hts (mc_ inX12) hown hK g rfl 51 (by decide) rfl (hts _ (List.mem_cons_of_mem _ t_2006)) (fun _ h9 => h9) 0 rfl dX14_readUnary_111 ?_
                  refine lv_iload_n hx hb dX14_readUnary_114 rfl (lv_at hl 0 rfl) ?_
                  refine g_iald hx hb hK g ma_404 ka_404 (by decide) rfl (in_bd b_397 (by decide)) dX14_readUnary_115 (fun x_421 bx_421 cx_421 => ?_)
                  obtain rfl : x_405 = x_421 := el_same cx_405 cx_421 (arr_eq hMr_414 ma_404 ka_404 (by decide) rfl)
                  refine lv_iadd hx hb dX14_readUnary_116 ?_
                  refine lv_topi (fun y_422 ey_422 => ?_)
                  have ty_422 := add_bd ey_422 kb_1 b_413 (by decide)
                  have b_423 : bd 2 12 y_422 := add_rg ty_422 kb_1 b_413 (by decide)
                  have hnb : (V_382.n 57).toInt ≤ 2499 := by omega
                  have go_ := g
                  refine g_calli (va_runV (As := [.int 7, .int r_377, .int (-1), .int y_422]) (rest := []) ⟨hx, hb, hml, hown, hts⟩ (r_X14_node l dC dI L kd tys fr_414 H.size g.2.2.2.1 a0_ ma0_ ka0_ 7 r_377 (-1) y_422 q0_ mq0_ kq0_ o_ bo_ V_382 hG_418 hnb (g.fcts [3, 4] rfl)) (cwV 4 hts (gV_ t_2480 t_2482 t_117 t_198 t_2483) rfl rfl rfl (by decide +kernel) ⟨(show 0 + 1 ≤ N + 1 + 24 by omega), (show 8 + (6 + 11) + 0 ≤ 60 * (N + 1) + 700 by omega)⟩) (pre3V g hK ma0_ ka0_ (by decide) (q := (RX14, TX14, 67)) rfl) rfl rfl hl.1 rfl (lv_room (Nat.le_of_ble_eq_true rfl)) dX14_readUnary_117 (cl_f hck_396)) g hK (by decide) (by decide) (fx' := [(12, 51, q0_, .ref a_404), (14, 25, a0_, .int y_398), (14, 10, a0_, .int x_379), (14, 2, a0_, .ref q0_), (14, 16, a0_, .int o_)]) rfl (fun r_424 fr_424 H locs hp hMr_424 g => ?_)
                  obtain ⟨hx_425, hx_426, h_427, x_428, h_429, hF_430⟩ := hp
                  have hG_431 := cEq.frame hMr_424 go_.2.2.2.1 ma0_ ka0_ (by decide) (by decide) hG_420
                  have hF_432 := FR.call (mds := []) (mas := []) hG_419 go_ mq0_ kq0_ rfl hx_426
                  obtain ⟨V_433, hV_434, hN_435⟩ := hx_425
                  have g := g.more hF_430
                  have hf_436 : fin V_382 V_433 r_424 12 o_ := nd_un hN_435 h_427.1 hw_388 ⟨(by have h9_0 := bo_; unfold bd at h9_0; have h9_1 := b_268; unfold bd at h9_1; have h9_2 := b_397; unfold bd at h9_2; have h9_3 := h_427; unfold bd at h9_3; have h9_4 := b_375; unfold bd at h9_4; have h9_5 := h_251; unfold bd at h9_5; have h9_6 := bx_255; unfold bd at h9_6; have h9_7 := h_263; unfold bd at h9_7; have h9_8 := h_274; unfold bd at h9_8; have h9_9 := h_370; unfold bd at h9_9; have h9_10 := h_380; unfold bd at h9_10; have h9_11 := h_5; unfold bd at h9_11; have h9_12 := b_413; unfold bd at h9_12; have h9_13 := h_429; unfold bd at h9_13; have h9_14 := b_399; unfold bd at h9_14; have h9_15 := b_423; unfold bd at h9_15; have h8_0 := kb_1; unfold bd at h8_0; have h8_1 := kb_12; unfold bd at h8_1; omega), (by have h9_0 := bo_; unfold bd at h9_0; have h9_1 := b_268; unfold bd at h9_1; have h9_2 := b_397; unfold bd at h9_2; have h9_3 := h_427; unfold bd at h9_3; have h9_4 := b_375; unfold bd at h9_4; have h9_5 := h_251; unfold bd at h9_5; have h9_6 := bx_255; unfold bd at h9_6; have h9_7 := h_263; unfold bd at h9_7; have h9_8 := h_274; unfold bd at h9_8; have h9_9 := h_370; unfold bd at h9_9; have h9_10 := h_380; unfold bd at h9_10; have h9_11 := h_5; unfold bd at h9_11; have h9_12 := b_413; unfold bd at h9_12; have h9_13 := h_429; unfold bd at h9_13; have h9_14 := b_399; unfold bd at h9_14; have h9_15 := b_423; unfold bd at h9_15; have h8_0 := kb_1; unfold bd at h8_0; have h8_1 := kb_12; unfold bd at h8_1; omega)⟩ (by have h9_0 := bo_; unfold bd at h9_0; have h9_1 := b_268; unfold bd at h9_1; have h9_2 := b_397; unfold bd at h9_2; have h9_3 := h_427; unfold bd at h9_3; have h9_4 := b_375; unfold bd at h9_4; have h9_5 := h_251; unfold bd at h9_5; have h9_6 := bx_255; unfold bd at h9_6; have h9_7 := h_263; unfold bd at h9_7; have h9_8 := h_274; unfold bd at h9_8; have h9_9 := h_370; unfold bd at h9_9; have h9_10 := h_380; unfold bd at h9_10; have h9_11 := h_5; unfold bd at h9_11; have h9_12 := b_413; unfold bd at h9_12; have h9_13 := h_429; unfold bd at h9_13; have h9_14 := b_399; unfold bd at h9_14; have h9_15 := b_423; unfold bd at h9_15; have h8_0 := kb_1; unfold bd at h8_0; have h8_1 := kb_12; unfold bd at h8_1; omega) (by rw [hx_395.2.2.1 0 (by decide)]; exact ho) (by decide) (EV.at_ hv_389 vx_405) (by have h9_0 := bo_; unfold bd at h9_0; have h9_1 := b_268; unfold bd at h9_1; have h9_2 := b_397; unfold bd at h9_2; have h9_3 := h_427; unfold bd at h9_3; have h9_4 := b_375; unfold bd at h9_4; have h9_5 := h_251; unfold bd at h9_5; have h9_6 := bx_255; unfold bd at h9_6; have h9_7 := h_263; unfold bd at h9_7; have h9_8 := h_274; unfold bd at h9_8; have h9_9 := h_370; unfold bd at h9_9; have h9_10 := h_380; unfold bd at h9_10; have h9_11 := h_5; unfold bd at h9_11; have h9_12 := b_413; unfold bd at h9_12; have h9_13 := h_429; unfold bd at h9_13; have h9_14 := b_399; unfold bd at h9_14; have h9_15 := b_423; unfold bd at h9_15; have h8_0 := kb_1; unfold bd at h8_0; have h8_1 := kb_12; unfold bd at h8_1; omega)
                  have ho_440 : (V_433.i 47 r_424.toNatClampNeg).toInt = 7 := (congrArg Int32.toInt (hN_435).2.2.2.1).trans (by decide)
                  obtain ⟨V_437, hV_438, hf_439, ho_440⟩ : ∃ V1 : PV, isV fr_424 q0_ V1 ∧ fin V_382 V1 r_424 12 o_ ∧ (V1.i 47 r_424.toNatClampNeg).toInt = 7 := ⟨_, hV_434, hf_436, ho_440⟩
                  have hf_439n := hf_439.2.2.2
                  have hx_441 := exN.tr hx_395 hf_439.1
                  have he_442 := exN.ev hf_439.1 hv_389
                  obtain rfl : op_ = y_398 := Int32.toInt_inj.mp (by have h9_0 := bo_; unfold bd at h9_0; have h9_1 := b_268; unfold bd at h9_1; have h9_2 := b_397; unfold bd at h9_2; have h9_3 := h_427; unfold bd at h9_3; have h9_4 := b_375; unfold bd at h9_4; have h9_5 := h_251; unfold bd at h9_5; have h9_6 := bx_255; unfold bd at h9_6; have h9_7 := h_263; unfold bd at h9_7; have h9_8 := h_274; unfold bd at h9_8; have h9_9 := h_370; unfold bd at h9_9; have h9_10 := h_380; unfold bd at h9_10; have h9_11 := h_5; unfold bd at h9_11; have h9_12 := b_413; unfold bd at h9_12; have h9_13 := h_429; unfold bd at h9_13; have h9_14 := b_399; unfold bd at h9_14; have h9_15 := b_423; unfold bd at h9_15; have h8_0 := kb_1; unfold bd at h8_0; have h8_1 := kb_12; unfold bd at h8_1; omega)
                  have h9c : cF fr_424 a0_ = _ := hG_431
                  subst hQ
                  exact iretX (v := r_424) hx hb hr (fun t ht hW => g_retX g hK ⟨_, rfl, ⟨⟨_, hV_438, hF_432, hx_441, hf_439.2.1, hf_439.2.2.1, trivial, (by omega), (by omega), (by omega)⟩, x_379, h_380, (g.fcts [2, 3] rfl)⟩⟩ ht hW) g.2.2.1.2.2 dX14_readUnary_120 hlocks
