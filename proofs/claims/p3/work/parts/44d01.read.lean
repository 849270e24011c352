set_option maxHeartbeats 4000000 in
set_option maxRecDepth 100000 in
theorem r_X14_readUnary (N : Nat) (ih : RecR N) (l : Launch) (dC : Nat → ClassId) (dI : Nat → Nat → Nat) (L : List Nat) (kd : Nat → Nat) (tys : List (ClassId × FieldType)) (f0 : Nat → va_E) (sz : Nat) (hWT : WT L kd tys f0) (adK adV : Nat → Nat) (a0_ : Nat) (ma0_ : a0_ ∈ L) (ka0_ : kd a0_ = 14) (q0_ : Nat) (mq0_ : q0_ ∈ L) (kq0_ : kd q0_ = 12) (V_ : PV) (o_ : Int32) (bo_ : bd 0 7 o_) (op_ : Int32) (bop_ : bd 0 40 op_) (t_ : Int32) (bt_ : bd 0 1201 t_) (hV : isV f0 q0_ V_) (hwf : wfN V_ (V_.n 57).toInt) (ho : (o_.toNatClampNeg : Int) < (V_.n 0).toInt) (hnn : (V_.n 57).toInt ≤ cF f0 a0_) (K_ : Nat) (hK_ : 1204 ≤ 2 * (K_ : Int) + cF f0 a0_) (hN : 11 * (40 - op_.toInt) + 4 ≤ ((N + 1 : Nat) : Int)) (hfx : Fs L kd f0 [(14, 2, a0_, .ref q0_), (14, 16, a0_, .int o_), (14, 25, a0_, .int op_), (14, 10, a0_, .int t_)]) : MetX l yX14_readUnary (.code yX14_readUnary cX14_readUnary 4 (some .int) :: lw_g) ({ frames := (N + 1) + 24, cells := K_, slots := 3 * K_, locals := 60 * (N + 1) + 700 }) (va_Pc [.ref a0_] (P3A (dC, dI) L tys f0 sz adK adV)) (q3Z (dC, dI) L kd tys [(12, 57), (12, 58), (14, 6), (14, 7), (14, 8), (14, 9), (14, 10), (14, 11), (14, 12), (14, 13), (14, 14), (14, 15), (14, 25)] [180, 201, 202, 203, 204, 205, 206, 207, 208, 209, 210] f0 sz (pXi (fun (r : Int32) (f : Nat → va_E) (k : Nat) => (rdP L kd f0 a0_ q0_ V_ o_ (12) 0 r f k (fun _ => True)) ∧ ∃ z1_ : Int32, bd 0 1201 z1_ ∧ Fs L kd f [(14, 25, a0_, .int op_), (14, 10, a0_, .int z1_)])) (fun (f : Nat → va_E) (k : Nat) => FR L kd f0 f q0_ ∧ 2 * (k : Int) + cF f0 a0_ ≤ 1203)) (pA L sz) := by
  refine MetX.ofW (cc := cX14_readUnary) (maxL := 4) (ret := (some .int)) (by decide) rfl ?_
  intro p e s m args below meth c s₁ B hml hempty hv
  obtain ⟨rfl, ⟨hsz, hP, hK, hD0⟩, hAm⟩ := hv
  have hx := B.exec
  have hb := B.bytes
  have hr := B.returns
  have hts := atoms_spec (ws := (.code yX14_readUnary cX14_readUnary 4 (some .int) :: lw_g)) B.pre
  have hown : s.vm.findClass RX14 = some m.cls := findClass_of_methodNamed B.named
  have hlocks := B.notSynchronized
  subst hsz
  have g : G3 (dC, dI) L kd tys s f0 [(12, 57), (12, 58), (14, 6), (14, 7), (14, 8), (14, 9), (14, 10), (14, 11), (14, 12), (14, 13), (14, 14), (14, 15), (14, 25)] [180, 201, 202, 203, 204, 205, 206, 207, 208, 209, 210] f0 s.heap [] [(14, 2, a0_, .ref q0_), (14, 16, a0_, .int o_), (14, 25, a0_, .int op_), (14, 10, a0_, .int t_)] := G3.start hP hD0 hWT hfx
  have hl := lv_entry ([.ref a0_]) (n := 4) (Nat.le_of_ble_eq_true rfl)
  rw [lg_entry_eq]
  generalize (lg_sl ([.ref a0_]) ++ List.replicate (4 - (lg_sl ([.ref a0_])).length) Slot.unset).toArray = ls at hl ⊢
  have hl : lv_has ls 4 [(0, .ref a0_)] := hl
  refine W_q (fun Q hQ => ?_)
  refine W_c0 (fun cl_0 hc_0 => ?_)
  have hck_0 : cl_0 ≤ K_ := by omega
  have hC_0 : cEq f0 a0_ (cF f0 a0_) := rfl
  have hm_0 : cF f0 a0_ ≤ 1202 := cF_le g ma0_ ka0_
  have hm_1 : -1 ≤ cF f0 a0_ := cF_ge g ma0_ ka0_
  refine lv_aload_n hx hb dX14_readUnary_0 rfl (lv_at hl 0 rfl) ?_
  refine lv_bipush (v := 45) hx hb dX14_readUnary_1 (by decide) ?_
  have go_ := g
  refine g_calli (va_runV (As := [.int 45]) (rest := []) ⟨hx, hb, hml, hown, hts⟩ (r_X14_isSign l dC dI L kd tys f0 s.heap.size g.2.2.2.1 a0_ ma0_ ka0_ 45) (cwV 1 hts (gV_ t_2435 t_2437 t_108 t_198 t_2438) rfl rfl rfl (by decide +kernel) ⟨(show 0 + 1 ≤ N + 1 + 24 by omega), (show 8 + (2 + 11) + 0 ≤ 60 * (N + 1) + 700 by omega)⟩) (pre3V g hK ma0_ ka0_ (by decide) (q := (RX14, TX14, 67)) rfl) rfl rfl hl.1 rfl (lv_room (Nat.le_of_ble_eq_true rfl)) dX14_readUnary_3 (cl_f hck_0)) g hK (by decide) (by decide) (fx' := [(14, 2, a0_, .ref q0_), (14, 16, a0_, .int o_), (14, 25, a0_, .int op_), (14, 10, a0_, .int t_)]) rfl (fun r_1 fr_1 H locs hp hMr_1 g => ?_)
  rcases hp with ⟨h_2, -⟩ | ⟨h_3, x_4, h_5, hF_6⟩
  · have hG_7 := isV.frame hMr_1 go_.2.2.2.1 mq0_ kq0_ (by decide) (by decide) hV
    have hG_8 := FR.frame hMr_1 go_.2.2.2.1 mq0_ kq0_ (by decide) (by decide) FR.refl
    have hG_9 := cEq.frame hMr_1 go_.2.2.2.1 ma0_ ka0_ (by decide) (by decide) hC_0
    obtain rfl : r_1 = 0 := h_2
    refine lv_if_ne (tgt := 23) hx hb dX14_readUnary_6 (by decide) (fun c_ => absurd c_ (by decide)) (fun c_ => ?_)
    refine lv_aload_n hx hb dX14_readUnary_9 rfl (lv_at hl 0 rfl) ?_
    refine lv_bipush (v := 33) hx hb dX14_readUnary_10 (by decide) ?_
    have go_ := g
    refine g_calli (va_runV (As := [.int 33]) (rest := []) ⟨hx, hb, hml, hown, hts⟩ (r_X14_isSign l dC dI L kd tys fr_1 H.size g.2.2.2.1 a0_ ma0_ ka0_ 33) (cwV 1 hts (gV_ t_2435 t_2437 t_108 t_198 t_2438) rfl rfl rfl (by decide +kernel) ⟨(show 0 + 1 ≤ N + 1 + 24 by omega), (show 8 + (2 + 11) + 0 ≤ 60 * (N + 1) + 700 by omega)⟩) (pre3V g hK ma0_ ka0_ (by decide) (q := (RX14, TX14, 67)) rfl) rfl rfl hl.1 rfl (lv_room (Nat.le_of_ble_eq_true rfl)) dX14_readUnary_12 (cl_f hck_0)) g hK (by decide) (by decide) (fx' := [(14, 2, a0_, .ref q0_), (14, 16, a0_, .int o_), (14, 25, a0_, .int op_), (14, 10, a0_, .int t_)]) rfl (fun r_10 fr_10 H locs hp hMr_10 g => ?_)
    rcases hp with ⟨h_11, -⟩ | ⟨h_12, x_13, h_14, hF_15⟩
    · have hG_16 := isV.frame hMr_10 go_.2.2.2.1 mq0_ kq0_ (by decide) (by decide) hG_7
      have hG_17 := FR.frame hMr_10 go_.2.2.2.1 mq0_ kq0_ (by decide) (by decide) hG_8
      have hG_18 := cEq.frame hMr_10 go_.2.2.2.1 ma0_ ka0_ (by decide) (by decide) hG_9
      obtain rfl : r_10 = 0 := h_11
      refine lv_if_ne (tgt := 23) hx hb dX14_readUnary_15 (by decide) (fun c_ => absurd c_ (by decide)) (fun c_ => ?_)
      refine lv_aload_n hx hb dX14_readUnary_18 rfl (lv_at hl 0 rfl) ?_
      have qc__19 : cF fr_10 a0_ = _ := hG_18
      have go_ := g
      refine g_callZi (As := []) (rest := []) ⟨hx, hb, hml, hown, hts⟩ (ih.2.2.1 l dC dI L kd tys fr_10 H.size g.2.2.2.1 adK adV a0_ ma0_ ka0_ q0_ mq0_ kq0_ V_ o_ bo_ op_ bop_ t_ bt_ hG_16 hwf ho (by omega) (K_ - cl_0) (by omega) (by have h9_0 := bo_; unfold bd at h9_0; have h9_1 := bop_; unfold bd at h9_1; have h9_2 := bt_; unfold bd at h9_2; omega) (g.fcts [0, 1, 2, 3] rfl)) (cwV 0 hts (gV_ t_2472 t_2474 t_115 t_198 t_2475) rfl rfl rfl (by decide +kernel) ⟨(show N + 24 + 1 ≤ N + 1 + 24 by omega), (show 8 + (5 + 11) + (60 * N + 700) ≤ 60 * (N + 1) + 700 by omega)⟩) (pre3VA g hK hAm ma0_ ka0_ (by decide) (q := (RX14, TX14, 67)) rfl) rfl hl.1 rfl (lv_room (Nat.le_of_ble_eq_true rfl)) dX14_readUnary_19 (cl_k (K := K_) (k := K_ - cl_0) (show cl_0 + (K_ - cl_0) ≤ K_ by omega)) g hK (by decide) (by decide) (fx' := [(14, 2, a0_, .ref q0_), (14, 16, a0_, .int o_)]) rfl (fun xr_20 fr_20 H locs kr_20 cr_20 ecr_20 mxr_20 kxr_20 hp hMr_20 g => ?_) (fun r_20 fr_20 H locs kr_20 cr_20 ecr_20 hp hMr_20 g => ?_)
      · have hF_21 := FR.call (mds := []) (mas := []) hG_17 go_ mq0_ kq0_ rfl hp.1
        have hpk := hp.2
        subst hQ
        exact leavesX hempty hlocks (fun t ht hW => g_thrZ g hK mxr_20 kxr_20 ⟨hF_21, (by omega)⟩ ht hW) g.2.2.1.2.2
      · obtain ⟨hx_22, x_23, h_24, hF_25⟩ := hp
        obtain ⟨V_26, E_27, hV_28, hF_29, hE_30, hX_31, hw_32, hv_33, hP_34, hn_35, hk_36, hc_37⟩ := rd_use hx_22 hG_18
        have hF_38 := FR.call (mds := []) (mas := []) hG_17 go_ mq0_ kq0_ rfl hF_29
        have mxE_27 : E_27 ≤ 1202 := by have h9 := cF_le g ma0_ ka0_; have h8 : cF _ _ = _ := hE_30; omega
        have hx_39 := exN.tr exN.rf hX_31
        have hck_40 : cr_20 ≤ K_ := by omega
        have b_41 : bd 0 2499 r_20 := ⟨hv_33.1, (by have h9 := hv_33.2.1; omega)⟩
        have g := g.more hF_25
        have h9c : cF fr_20 a0_ = _ := hE_30
        subst hQ
        exact iretX (v := r_20) hx hb hr (fun t ht hW => g_retZ g hK ⟨_, rfl, ⟨⟨_, hV_28, hF_38, hx_39, hw_32, hv_33, trivial, (by omega), (by omega), (by omega)⟩, x_23, h_24, (g.fcts [0, 1] rfl)⟩⟩ ht hW) g.2.2.1.2.2 dX14_readUnary_22 hlocks
    · have hG_42 := isV.frame hMr_10 go_.2.2.2.1 mq0_ kq0_ (by decide) (by decide) hG_7
      have hG_43 := FR.frame hMr_10 go_.2.2.2.1 mq0_ kq0_ (by decide) (by decide) hG_8
      have hG_44 := cEq.frame hMr_10 go_.2.2.2.1 ma0_ ka0_ (by decide) (by decide) hG_9
      obtain rfl : r_10 = 1 := h_12
      have g := g.more hF_15
      refine lv_if_ne (tgt := 23) hx hb dX14_readUnary_15 (by decide) (fun c_ => ?_) (fun c_ => absurd c_ (by decide))
      refine lv_aload_n hx hb dX14_readUnary_23 rfl (lv_at hl 0 rfl) ?_
      have hs_45 := sE_1 g 0 rfl (by have h9_0 := bo_; unfold bd at h9_0; have h9_1 := bop_; unfold bd at h9_1; have h9_2 := bt_; unfold bd at h9_2; have h9_3 := h_14; unfold bd at h9_3; omega)
      have go_ := g
      refine g_callEv (As := []) (rest := []) ⟨hx, hb, hml, hown, hts⟩ (r_X14_counts_2 l dC dI L kd tys fr_10 H.size g.2.2.2.1 a0_ ma0_ ka0_ q0_ mq0_ kq0_ V_ hG_42 (g.fcts [1] rfl)) (cwV 0 hts (gV_ t_2476 t_2478 t_116 t_198 t_2479) rfl rfl rfl (by decide +kernel) ⟨(show 2 + 1 ≤ N + 1 + 24 by omega), (show 8 + (1 + 11) + 45 ≤ 60 * (N + 1) + 700 by omega)⟩) (pre3V g hK ma0_ ka0_ (by decide) (q := (RX14, TX14, 67)) rfl) rfl hl.1 rfl (lv_room (Nat.le_of_ble_eq_true rfl)) dX14_readUnary_24 (cl_f hck_0) g hK (by decide) (by decide) (fx' := [(14, 6, a0_, .int x_13), (14, 2, a0_, .ref q0_), (14, 16, a0_, .int o_), (14, 25, a0_, .int op_), (14, 10, a0_, .int t_)]) rfl (fun xr_46 fr_46 H locs mxr_46 kxr_46 hp hMr_46 g => ?_) (fun fr_46 H locs hp hMr_46 g => ?_)
      · have hG_47 := cEq.frame hMr_46 go_.2.2.2.1 ma0_ ka0_ (by decide) (by decide) hG_44
        have hF_48 := FR.call (mds := []) (mas := []) hG_43 go_ mq0_ kq0_ rfl hp
        subst hQ
        exact leavesX hempty hlocks (fun t ht hW => g_thrZ g hK mxr_46 kxr_46 ⟨hF_48, (by omega)⟩ ht hW) g.2.2.1.2.2
      · obtain ⟨hx_49, hx_50, x_51, h_52, hF_53⟩ := hp
        have hG_54 := cEq.frame hMr_46 go_.2.2.2.1 ma0_ ka0_ (by decide) (by decide) hG_44
        have hF_55 := FR.call (mds := []) (mas := []) hG_43 go_ mq0_ kq0_ rfl hx_50
        have g := g.more hF_53
        refine lv_aload_n hx hb dX14_readUnary_27 rfl (lv_at hl 0 rfl) ?_
        refine lv_aload_n hx hb dX14_readUnary_28 rfl (lv_at hl 0 rfl) ?_
        refine g_geti (C := RX14) (T := TX14) (N := 67) hx hb hts (mc_ inX14) hown hK g ma0_ ka0_ (by decide) rfl 8 (by decide) rfl (hts _ (List.mem_cons_of_mem _ t_2154)) (fun _ h9 => h9) rfl dX14_readUnary_29 (fun x_56 bx_56 g => ?_)
        have hs_57 := sE_1 g 2 rfl (by have h9_0 := bo_; unfold bd at h9_0; have h9_1 := bop_; unfold bd at h9_1; have h9_2 := bt_; unfold bd at h9_2; have h9_3 := h_14; unfold bd at h9_3; have h9_4 := h_52; unfold bd at h9_4; have h9_5 := bx_56; unfold bd at h9_5; omega)
        have go_ := g
        refine g_callEv (As := [.int x_56]) (rest := []) ⟨hx, hb, hml, hown, hts⟩ (r_X14_opens_2 l dC dI L kd tys fr_46 H.size g.2.2.2.1 a0_ ma0_ ka0_ x_56 op_ bop_ (g.fcts [5] rfl)) (cwV 1 hts (gV_ t_2488 t_2490 t_119 t_198 t_2491) rfl rfl rfl (by decide +kernel) ⟨(show 2 + 1 ≤ N + 1 + 24 by omega), (show 8 + (2 + 11) + 45 ≤ 60 * (N + 1) + 700 by omega)⟩) (pre3V g hK ma0_ ka0_ (by decide) (q := (RX14, TX14, 67)) rfl) rfl hl.1 rfl (lv_room (Nat.le_of_ble_eq_true rfl)) dX14_readUnary_32 (cl_f hck_0) g hK (by decide) (by decide) (fx' := [(14, 8, a0_, .int x_56), (12, 58, q0_, .int x_51), (14, 6, a0_, .int x_13), (14, 2, a0_, .ref q0_), (14, 16, a0_, .int o_), (14, 10, a0_, .int t_)]) rfl (fun xr_58 fr_58 H locs mxr_58 kxr_58 hp hMr_58 g => ?_) (fun fr_58 H locs hp hMr_58 g => ?_)
        · have hG_59 := cEq.frame hMr_58 go_.2.2.2.1 ma0_ ka0_ (by decide) (by decide) hG_54
          have hG_60 := FR.frame hMr_58 go_.2.2.2.1 mq0_ kq0_ (by decide) (by decide) hF_55
          have hG_61 := isV.frame hMr_58 go_.2.2.2.1 mq0_ kq0_ (by decide) (by decide) hx_49
          subst hQ
          exact leavesX hempty hlocks (fun t ht hW => g_thrZ g hK mxr_58 kxr_58 ⟨hG_60, (by omega)⟩ ht hW) g.2.2.1.2.2
        · obtain ⟨h_62, x_63, ⟨h_64, rh_64⟩, hF_65⟩ := hp
          have hG_66 := cEq.frame hMr_58 go_.2.2.2.1 ma0_ ka0_ (by decide) (by decide) hG_54
          have hG_67 := FR.frame hMr_58 go_.2.2.2.1 mq0_ kq0_ (by decide) (by decide) hF_55
          have hG_68 := isV.frame hMr_58 go_.2.2.2.1 mq0_ kq0_ (by decide) (by decide) hx_49
          have b_69 : bd 0 39 op_ := eqX rfl bop_ h_62 (by decide)
          have g := g.more hF_65
          refine lv_aload_n hx hb dX14_readUnary_35 rfl (lv_at hl 0 rfl) ?_
          refine lv_bipush (v := 45) hx hb dX14_readUnary_36 (by decide) ?_
          have hs_70 := sE_1 g 3 rfl (by have h9_0 := bo_; unfold bd at h9_0; have h9_1 := b_69; unfold bd at h9_1; have h9_2 := bt_; unfold bd at h9_2; have h9_3 := h_14; unfold bd at h9_3; have h9_4 := h_52; unfold bd at h9_4; have h9_5 := bx_56; unfold bd at h9_5; have h9_6 := h_64; unfold bd at h9_6; omega)
          have go_ := g
          refine g_calli (va_runV (As := [.int 45]) (rest := []) ⟨hx, hb, hml, hown, hts⟩ (r_X14_isSign l dC dI L kd tys fr_58 H.size g.2.2.2.1 a0_ ma0_ ka0_ 45) (cwV 1 hts (gV_ t_2435 t_2437 t_108 t_198 t_2438) rfl rfl rfl (by decide +kernel) ⟨(show 0 + 1 ≤ N + 1 + 24 by omega), (show 8 + (2 + 11) + 0 ≤ 60 * (N + 1) + 700 by omega)⟩) (pre3V g hK ma0_ ka0_ (by decide) (q := (RX14, TX14, 67)) rfl) rfl rfl hl.1 rfl (lv_room (Nat.le_of_ble_eq_true rfl)) dX14_readUnary_38 (cl_f hck_0)) g hK (by decide) (by decide) (fx' := [(14, 25, a0_, .int x_63), (14, 8, a0_, .int x_56), (12, 58, q0_, .int x_51), (14, 6, a0_, .int x_13), (14, 2, a0_, .ref q0_), (14, 16, a0_, .int o_), (14, 10, a0_, .int t_)]) rfl (fun r_71 fr_71 H locs hp hMr_71 g => ?_)
          rcases hp with ⟨h_72, -⟩ | ⟨h_73, x_74, h_75, hF_76⟩
          · have hG_77 := cEq.frame hMr_71 go_.2.2.2.1 ma0_ ka0_ (by decide) (by decide) hG_66
            have hG_78 := FR.frame hMr_71 go_.2.2.2.1 mq0_ kq0_ (by decide) (by decide) hG_67
            have hG_79 := isV.frame hMr_71 go_.2.2.2.1 mq0_ kq0_ (by decide) (by decide) hG_68
            obtain rfl : r_71 = 0 := h_72
            refine lv_if_eq (tgt := 49) hx hb dX14_readUnary_41 (by decide) (fun c_ => ?_) (fun c_ => absurd (by decide) c_)
            refine lv_bipush (v := 8) hx hb dX14_readUnary_49 (by decide) ?_
            refine lv_istore_n (lv' := [(1, .int 8), (0, .ref a0_)]) hx hb dX14_readUnary_51 rfl hl (by decide) rfl (fun ls hl => ?_)
            refine lv_aload_n hx hb dX14_readUnary_52 rfl (lv_at hl 1 rfl) ?_
            refine g_getk (C := RX14) (T := TX14) (N := 67) hx hb hts (mc_ inX14) hown hK g rfl 8 (by decide) rfl (hts _ (List.mem_cons_of_mem _ t_2154)) (fun _ h9 => h9) 1 rfl dX14_readUnary_53 ?_
            refine lv_istore_n (lv' := [(2, .int x_56), (1, .int 8), (0, .ref a0_)]) hx hb dX14_readUnary_56 rfl hl (by decide) rfl (fun ls hl => ?_)
            refine lv_aload_n hx hb dX14_readUnary_57 rfl (lv_at hl 2 rfl) ?_
            have hs_80 := sE_1 g 3 rfl (by have h9_0 := bo_; unfold bd at h9_0; have h9_1 := b_69; unfold bd at h9_1; have h9_2 := bt_; unfold bd at h9_2; have h9_3 := h_14; unfold bd at h9_3; have h9_4 := h_52; unfold bd at h9_4; have h9_5 := bx_56; unfold bd at h9_5; have h9_6 := h_64; unfold bd at h9_6; omega)
            have go_ := g
            refine g_callEv (As := []) (rest := []) ⟨hx, hb, hml, hown, hts⟩ (r_X14_next_2 l dC dI L kd tys fr_71 H.size g.2.2.2.1 adK adV a0_ ma0_ ka0_ t_ bt_ (g.fcts [6] rfl)) (cwV 0 hts (gV_ t_2411 t_2413 t_102 t_198 t_2414) rfl rfl rfl (by decide +kernel) ⟨(show 6 + 1 ≤ N + 1 + 24 by omega), (show 8 + (1 + 11) + 135 ≤ 60 * (N + 1) + 700 by omega)⟩) (pre3VA g hK hAm ma0_ ka0_ (by decide) (q := (RX14, TX14, 67)) rfl) rfl hl.1 rfl (lv_room (Nat.le_of_ble_eq_true rfl)) dX14_readUnary_58 (cl_f hck_0) g hK (by decide) (by decide) (fx' := [(14, 25, a0_, .int x_63), (12, 58, q0_, .int x_51), (14, 2, a0_, .ref q0_), (14, 16, a0_, .int o_)]) rfl (fun xr_81 fr_81 H locs mxr_81 kxr_81 hp hMr_81 g => ?_) (fun fr_81 H locs hp hMr_81 g => ?_)
            · have hG_82 := FR.frame hMr_81 go_.2.2.2.1 mq0_ kq0_ (by decide) (by decide) hG_78
              have hG_83 := isV.frame hMr_81 go_.2.2.2.1 mq0_ kq0_ (by decide) (by decide) hG_79
              subst hQ
              exact leavesX hempty hlocks (fun t ht hW => g_thrZ g hK mxr_81 kxr_81 ⟨hG_82, (by omega)⟩ ht hW) g.2.2.1.2.2
            · obtain ⟨hx_84, h_85, x_86, h_87, hF_88⟩ := hp
              have hG_89 := FR.frame hMr_81 go_.2.2.2.1 mq0_ kq0_ (by decide) (by decide) hG_78
              have hG_90 := isV.frame hMr_81 go_.2.2.2.1 mq0_ kq0_ (by decide) (by decide) hG_79
              obtain ⟨E_91, hE_91⟩ : ∃ E : Int, cEq fr_81 a0_ E := ⟨_, rfl⟩
              have mxE_91 : E_91 ≤ 1202 := by have h9 := cF_le g ma0_ ka0_; have h8 : cF _ _ = _ := hE_91; omega
              have lE_91 : (cF f0 a0_) + 1 ≤ E_91 := by have h9 := hx_84; have h8 : cF _ _ = _ := hE_91; have h7 : cF _ _ = _ := hG_77; have h6 := hs_80; have h5 := tk_c (f := fr_71) (t := a0_); omega
              have b_92 : bd 0 1200 t_ := eqX rfl bt_ h_85 (by decide)
              have g := g.more hF_88
              refine lv_aload_n hx hb dX14_readUnary_61 rfl (lv_at hl 2 rfl) ?_
              have qc__93 : cF fr_81 a0_ = _ := hE_91
              have go_ := g
              refine g_callZi (As := []) (rest := []) ⟨hx, hb, hml, hown, hts⟩ (ih.2.1 l dC dI L kd tys fr_81 H.size g.2.2.2.1 adK adV a0_ ma0_ ka0_ q0_ mq0_ kq0_ V_ o_ bo_ x_63 (bd_sub h_64 (by decide)) x_86 h_87 hG_90 hwf ho (by omega) (K_ - cl_0) (by omega) (by have h9_0 := bo_; unfold bd at h9_0; have h9_1 := b_69; unfold bd at h9_1; have h9_2 := b_92; unfold bd at h9_2; have h9_3 := h_14; unfold bd at h9_3; have h9_4 := h_52; unfold bd at h9_4; have h9_5 := bx_56; unfold bd at h9_5; have h9_6 := h_64; unfold bd at h9_6; have h9_7 := h_87; unfold bd at h9_7; omega) (g.fcts [3, 4, 1, 0] rfl)) (cwV 0 hts (gV_ t_2468 t_2470 t_114 t_198 t_2471) rfl rfl rfl (by decide +kernel) ⟨(show N + 24 + 1 ≤ N + 1 + 24 by omega), (show 8 + (4 + 11) + (60 * N + 700) ≤ 60 * (N + 1) + 700 by omega)⟩) (pre3VA g hK hAm ma0_ ka0_ (by decide) (q := (RX14, TX14, 67)) rfl) rfl hl.1 rfl (lv_room (Nat.le_of_ble_eq_true rfl)) dX14_readUnary_62 (cl_k (K := K_) (k := K_ - cl_0) (show cl_0 + (K_ - cl_0) ≤ K_ by omega)) g hK (by decide) (by decide) (fx' := [(14, 2, a0_, .ref q0_), (14, 16, a0_, .int o_)]) rfl (fun xr_94 fr_94 H locs kr_94 cr_94 ecr_94 mxr_94 kxr_94 hp hMr_94 g => ?_) (fun r_94 fr_94 H locs kr_94 cr_94 ecr_94 hp hMr_94 g => ?_)
              · have hF_95 := FR.call (mds := []) (mas := []) hG_89 go_ mq0_ kq0_ rfl hp.1
                have hpk := hp.2
                subst hQ
                exact leavesX hempty hlocks (fun t ht hW => g_thrZ g hK mxr_94 kxr_94 ⟨hF_95, (by omega)⟩ ht hW) g.2.2.1.2.2
              · obtain ⟨hx_96, x_97, h_98, hF_99⟩ := hp
                obtain ⟨V_100, E_101, hV_102, hF_103, hE_104, hX_105, hw_106, hv_107, hP_108, hn_109, hk_110, hc_111⟩ := rd_use hx_96 hE_91
                have hF_112 := FR.call (mds := []) (mas := []) hG_89 go_ mq0_ kq0_ rfl hF_103
                have mxE_101 : E_101 ≤ 1202 := by have h9 := cF_le g ma0_ ka0_; have h8 : cF _ _ = _ := hE_104; omega
                have hx_113 := exN.tr exN.rf hX_105
                have hck_114 : cr_94 ≤ K_ := by omega
                have b_115 : bd 0 2499 r_94 := ⟨hv_107.1, (by have h9 := hv_107.2.1; omega)⟩
                have g := g.more hF_99
                refine lv_istore_n (lv' := [(3, .int r_94), (2, .int x_56), (1, .int 8), (0, .ref a0_)]) hx hb dX14_readUnary_65 rfl hl (by decide) rfl (fun ls hl => ?_)
                refine lv_aload_n hx hb dX14_readUnary_66 rfl (lv_at hl 3 rfl) ?_
                refine lv_dup hx hb dX14_readUnary_67 rfl ?_
                refine g_getk (C := RX14) (T := TX14) (N := 67) hx hb hts (mc_ inX14) hown hK g rfl 25 (by decide) rfl (hts _ (List.mem_cons_of_mem _ t_2171)) (fun _ h9 => h9) 0 rfl dX14_readUnary_68 ?_
                refine lv_iconst (v := 1) hx hb dX14_readUnary_71 (by decide) ?_
                have kb_1 : bd 1 1 (1 : Int32) := ⟨by decide, by decide⟩
                refine lv_isub hx hb dX14_readUnary_72 ?_
                refine lv_topi (fun y_116 ey_116 => ?_)
                have ty_116 := sub_bd ey_116 h_64 kb_1 (by decide)
                have b_117 : bd 0 39 y_116 := sub_rg ty_116 h_64 kb_1 (by decide)
                have go_ := g
                refine g_put (C := RX14) (T := TX14) (N := 67) hx hb hts (mc_ inX14) tyX14 tyX14_ok nmX14 hown hK g ma0_ ka0_ (by decide) rfl 25 (by decide) (hts _ (List.mem_cons_of_mem _ t_2171)) (fun _ h9 => h9) rfl rfl (okV_i (bd_sub b_117 (by decide))) rfl rfl (by decide) (Or.inr (Or.inl (by decide))) (fx' := [(14, 10, a0_, .int x_97), (14, 2, a0_, .ref q0_), (14, 16, a0_, .int o_)]) rfl dX14_readUnary_73 (fun f H locs hM_118 g => ?_)
                have hG_119 := isV.frame hM_118 go_.2.2.2.1 mq0_ kq0_ (by decide) (by decide) hV_102
                have hG_120 := FR.frame hM_118 go_.2.2.2.1 mq0_ kq0_ (by decide) (by decide) hF_112
                have hG_121 := cEq.frame hM_118 go_.2.2.2.1 ma0_ ka0_ (by decide) (by decide) hE_104
                refine lv_aload_n hx hb dX14_readUnary_76 rfl (lv_at hl 3 rfl) ?_
                refine lv_aload_n hx hb dX14_readUnary_77 rfl (lv_at hl 3 rfl) ?_
                refine g_getk (C := RX14) (T := TX14) (N := 67) hx hb hts (mc_ inX14) hown hK g rfl 2 (by decide) rfl (hts _ (List.mem_cons_of_mem _ t_2148)) (fun _ h9 => h9) 2 rfl dX14_readUnary_78 ?_
                refine g_getr (K := 205) (C := RX12) (T := TX12) (N := 60) hx hb hts (mc_ inX12) hown hK g mq0_ kq0_ (by decide) rfl 51 (by decide) rfl (hts _ (List.mem_cons_of_mem _ t_2006)) (fun _ h9 => h9) rfl dX14_readUnary_81 (fun a_122 ma_122 ka_122 g => ?_)
                refine lv_iload_n hx hb dX14_readUnary_84 rfl (lv_at hl 0 rfl) ?_
                refine g_iald hx hb hK g ma_122 ka_122 (by decide) rfl (in_bd b_115 (by decide)) dX14_readUnary_85 (fun x_123 bx_123 cx_123 => ?_)
                have vx_123 : x_123 = V_100.i 51 r_94.toNatClampNeg := hG_119.at g 0 rfl rfl cx_123
                have b_124 : bd 1 12 x_123 := ev_hb hw_106 hv_107 vx_123
                refine lv_bipush (v := 12) hx hb dX14_readUnary_86 (by decide) ?_
                have kb_12 : bd 12 12 (12 : Int32) := ⟨by decide, by decide⟩
                refine lv_icmp_ge (tgt := 95) hx hb dX14_readUnary_88 (by decide) (fun c_125 => ?_) (fun c_125 => ?_)
                · have fc_125 := le_f c_125
                  have b_126 : bd 12 12 x_123 := leR fc_125 kb_12 b_124 (by decide)
                  refine lv_iconst (v := 0) hx hb dX14_readUnary_95 (by decide) ?_
                  refine lv_bipush (v := 7) hx hb dX14_readUnary_96 (by decide) ?_
                  refine lv_iload_n hx hb dX14_readUnary_98 rfl (lv_at hl 1 rfl) ?_
                  have kb_0 : bd 0 0 (0 : Int32) := ⟨by decide, by decide⟩
                  have go_ := g
                  refine g_callEv (As := [.int 0, .int 7, .int x_56]) (rest := []) ⟨hx, hb, hml, hown, hts⟩ (r_X14_need_2 l dC dI L kd tys f H.size g.2.2.2.1 a0_ ma0_ ka0_ 0 kb_0 7 x_56) (cwV 3 hts (gV_ t_2403 t_2405 t_100 t_198 t_2406) rfl rfl rfl (by decide +kernel) ⟨(show 1 + 1 ≤ N + 1 + 24 by omega), (show 8 + (4 + 11) + 22 ≤ 60 * (N + 1) + 700 by omega)⟩) (pre3V g hK ma0_ ka0_ (by decide) (q := (RX14, TX14, 67)) rfl) rfl hl.1 rfl (lv_room (Nat.le_of_ble_eq_true rfl)) dX14_readUnary_99 (cl_f hck_114) g hK (by decide) (by decide) (fx' := [(12, 51, q0_, .ref a_122), (14, 25, a0_, .int y_116), (14, 10, a0_, .int x_97), (14, 2, a0_, .ref q0_), (14, 16, a0_, .int o_)]) rfl (fun xr_127 fr_127 H locs mxr_127 kxr_127 hp hMr_127 g => ?_) (fun fr_127 H locs hp hMr_127 g => ?_)
                  · have hG_128 := isV.frame hMr_127 go_.2.2.2.1 mq0_ kq0_ (by decide) (by decide) hG_119
                    have hG_129 := FR.frame hMr_127 go_.2.2.2.1 mq0_ kq0_ (by decide) (by decide) hG_120
                    have hG_130 := cEq.frame hMr_127 go_.2.2.2.1 ma0_ ka0_ (by decide) (by decide) hG_121
                    subst hQ
                    exact leavesX hempty hlocks (fun t ht hW => g_thrZ g hK mxr_127 kxr_127 ⟨hG_129, (by omega)⟩ ht hW) g.2.2.1.2.2
                  · exact hp.elim
                · have fc_125 := nle_f c_125
                  have b_131 : bd 1 11 x_123 := ltL fc_125 b_124 kb_12 (by decide)
                  refine lv_iconst (v := 1) hx hb dX14_readUnary_91 (by decide) ?_
                  refine lv_goto (tgt := 96) hx hb dX14_readUnary_92 (by decide) ?_
                  refine lv_bipush (v := 7) hx hb dX14_readUnary_96 (by decide) ?_
                  refine lv_iload_n hx hb dX14_readUnary_98 rfl (lv_at hl 1 rfl) ?_
                  have go_ := g
                  refine g_callEv (As := [.int 1, .int 7, .int x_56]) (rest := []) ⟨hx, hb, hml, hown, hts⟩ (r_X14_need_3 l dC dI L kd tys f H.size g.2.2.2.1 a0_ ma0_ ka0_ 1 kb_1 7 x_56) (cwV 3 hts (gV_ t_2403 t_2405 t_100 t_198 t_2406) rfl rfl rfl (by decide +kernel) ⟨(show 0 + 1 ≤ N + 1 + 24 by omega), (show 8 + (4 + 11) + 0 ≤ 60 * (N + 1) + 700 by omega)⟩) (pre3V g hK ma0_ ka0_ (by decide) (q := (RX14, TX14, 67)) rfl) rfl hl.1 rfl (lv_room (Nat.le_of_ble_eq_true rfl)) dX14_readUnary_99 (cl_f hck_114) g hK (by decide) (by decide) (fx' := [(12, 51, q0_, .ref a_122), (14, 25, a0_, .int y_116), (14, 10, a0_, .int x_97), (14, 2, a0_, .ref q0_), (14, 16, a0_, .int o_)]) rfl (fun xr_132 fr_132 H locs mxr_132 kxr_132 hp hMr_132 g => ?_) (fun fr_132 H locs hp hMr_132 g => ?_)
                  · have hG_133 := isV.frame hMr_132 go_.2.2.2.1 mq0_ kq0_ (by decide) (by decide) hG_119
                    have hG_134 := FR.frame hMr_132 go_.2.2.2.1 mq0_ kq0_ (by decide) (by decide) hG_120
                    have hG_135 := cEq.frame hMr_132 go_.2.2.2.1 ma0_ ka0_ (by decide) (by decide) hG_121
                    exact hp.elim
                  · have hG_136 := isV.frame hMr_132 go_.2.2.2.1 mq0_ kq0_ (by decide) (by decide) hG_119
                    have hG_137 := FR.frame hMr_132 go_.2.2.2.1 mq0_ kq0_ (by decide) (by decide) hG_120
                    have hG_138 := cEq.frame hMr_132 go_.2.2.2.1 ma0_ ka0_ (by decide) (by decide) hG_121
                    refine lv_aload_n hx hb dX14_readUnary_102 rfl (lv_at hl 3 rfl) ?_
                    refine lv_iload_n hx hb dX14_readUnary_103 rfl (lv_at hl 2 rfl) ?_
                    refine lv_iload_n hx hb dX14_readUnary_104 rfl (lv_at hl 0 rfl) ?_
                    refine lv_iconst (v := (-1)) hx hb dX14_readUnary_105 (by decide) ?_
                    refine lv_iconst (v := 1) hx hb dX14_readUnary_106 (by decide) ?_
                    refine lv_aload_n hx hb dX14_readUnary_107 rfl (lv_at hl 3 rfl) ?_
                    refine g_getk (C := RX14) (T := TX14) (N := 67) hx hb hts (mc_ inX14) hown hK g rfl 2 (by decide) rfl (hts _ (List.mem_cons_of_mem _ t_2148)) (fun _ h9 => h9) 3 rfl dX14_readUnary_108 ?_
                    refine g_getk (C := RX12) (T := TX12) (N := 60) hx hb hts (mc_ inX12) hown hK g rfl 51 (by decide) rfl (hts _ (List.mem_cons_of_mem _ t_2006)) (fun _ h9 => h9) 0 rfl dX14_readUnary_111 ?_
                    refine lv_iload_n hx hb dX14_readUnary_114 rfl (lv_at hl 0 rfl) ?_
                    refine g_iald hx hb hK g ma_122 ka_122 (by decide) rfl (in_bd b_115 (by decide)) dX14_readUnary_115 (fun x_139 bx_139 cx_139 => ?_)
                    obtain rfl : x_123 = x_139 := el_same cx_123 cx_139 (arr_eq hMr_132 ma_122 ka_122 (by decide) rfl)
                    refine lv_iadd hx hb dX14_readUnary_116 ?_
                    refine lv_topi (fun y_140 ey_140 => ?_)
                    have ty_140 := add_bd ey_140 kb_1 b_131 (by decide)
                    have b_141 : bd 2 12 y_140 := add_rg ty_140 kb_1 b_131 (by decide)
                    have hnb : (V_100.n 57).toInt ≤ 2499 := by omega
                    have go_ := g
                    refine g_calli (va_runV (As := [.int 8, .int r_94, .int (-1), .int y_140]) (rest := []) ⟨hx, hb, hml, hown, hts⟩ (r_X14_node l dC dI L kd tys fr_132 H.size g.2.2.2.1 a0_ ma0_ ka0_ 8 r_94 (-1) y_140 q0_ mq0_ kq0_ o_ bo_ V_100 hG_136 hnb (g.fcts [3, 4] rfl)) (cwV 4 hts (gV_ t_2480 t_2482 t_117 t_198 t_2483) rfl rfl rfl (by decide +kernel) ⟨(show 0 + 1 ≤ N + 1 + 24 by omega), (show 8 + (6 + 11) + 0 ≤ 60 * (N + 1) + 700 by omega)⟩) (pre3V g hK ma0_ ka0_ (by decide) (q := (RX14, TX14, 67)) rfl) rfl rfl hl.1 rfl (lv_room (Nat.le_of_ble_eq_true rfl)) dX14_readUnary_117 (cl_f hck_114)) g hK (by decide) (by decide) (fx' := [(12, 51, q0_, .ref a_122), (14, 25, a0_, .int y_116), (14, 10, a0_, .int x_97), (14, 2, a0_, .ref q0_), (14, 16, a0_, .int o_)]) rfl (fun r_142 fr_142 H locs hp hMr_142 g => ?_)
                    obtain ⟨hx_143, hx_144, h_145, x_146, h_147, hF_148⟩ := hp
                    have hG_149 := cEq.frame hMr_142 go_.2.2.2.1 ma0_ ka0_ (by decide) (by decide) hG_138
                    have hF_150 := FR.call (mds := []) (mas := []) hG_137 go_ mq0_ kq0_ rfl hx_144
                    obtain ⟨V_151, hV_152, hN_153⟩ := hx_143
                    have g := g.more hF_148
                    have hf_154 : fin V_100 V_151 r_142 12 o_ := nd_un hN_153 h_145.1 hw_106 ⟨(by have h9_0 := bo_; unfold bd at h9_0; have h9_1 := b_69; unfold bd at h9_1; have h9_2 := h_145; unfold bd at h9_2; have h9_3 := b_115; unfold bd at h9_3; have h9_4 := b_92; unfold bd at h9_4; have h9_5 := b_131; unfold bd at h9_5; have h9_6 := h_14; unfold bd at h9_6; have h9_7 := h_147; unfold bd at h9_7; have h9_8 := h_52; unfold bd at h9_8; have h9_9 := bx_56; unfold bd at h9_9; have h9_10 := h_64; unfold bd at h9_10; have h9_11 := h_87; unfold bd at h9_11; have h9_12 := h_98; unfold bd at h9_12; have h9_13 := b_117; unfold bd at h9_13; have h9_14 := b_141; unfold bd at h9_14; have h8_0 := kb_1; unfold bd at h8_0; have h8_1 := kb_12; unfold bd at h8_1; omega), (by have h9_0 := bo_; unfold bd at h9_0; have h9_1 := b_69; unfold bd at h9_1; have h9_2 := h_145; unfold bd at h9_2; have h9_3 := b_115; unfold bd at h9_3; have h9_4 := b_92; unfold bd at h9_4; have h9_5 := b_131; unfold bd at h9_5; have h9_6 := h_14; unfold bd at h9_6; have h9_7 := h_147; unfold bd at h9_7; have h9_8 := h_52; unfold bd at h9_8; have h9_9 := bx_56; unfold bd at h9_9; have h9_10 := h_64; unfold bd at h9_10; have h9_11 := h_87; unfold bd at h9_11; have h9_12 := h_98; unfold bd at h9_12; have h9_13 := b_117; unfold bd at h9_13; have h9_14 := b_141; unfold bd at h9_14; have h8_0 := kb_1; unfold bd at h8_0; have h8_1 := kb_12; unfold bd at h8_1; omega)⟩ (by have h9_0 := bo_; unfold bd at h9_0; have h9_1 := b_69; unfold bd at h9_1; have h9_2 := h_145; unfold bd at h9_2; have h9_3 := b_115; unfold bd at h9_3; have h9_4 := b_92; unfold bd at h9_4; have h9_5 := b_131; unfold bd at h9_5; have h9_6 := h_14; unfold bd at h9_6; have h9_7 := h_147; unfold bd at h9_7; have h9_8 := h_52; unfold bd at h9_8; have h9_9 := bx_56; unfold bd at h9_9; have h9_10 := h_64; unfold bd at h9_10; have h9_11 := h_87; unfold bd at h9_11; have h9_12 := h_98; unfold bd at h9_12; have h9_13 := b_117; unfold bd at h9_13; have h9_14 := b_141; unfold bd at h9_14; have h8_0 := kb_1; unfold bd at h8_0; have h8_1 := kb_12; unfold bd at h8_1; omega) (by rw [hx_113.2.2.1 0 (by decide)]; exact ho) (by decide) (EV.at_ hv_107 vx_123) (by have h9_0 := bo_; unfold bd at h9_0; have h9_1 := b_69; unfold bd at h9_1; have h9_2 := h_145; unfold bd at h9_2; have h9_3 := b_115; unfold bd at h9_3; have h9_4 := b_92; unfold bd at h9_4; have h9_5 := b_131; unfold bd at h9_5; have h9_6 := h_14; unfold bd at h9_6; have h9_7 := h_147; unfold bd at h9_7; have h9_8 := h_52; unfold bd at h9_8; have h9_9 := bx_56; unfold bd at h9_9; have h9_10 := h_64; unfold bd at h9_10; have h9_11 := h_87; unfold bd at h9_11; have h9_12 := h_98; unfold bd at h9_12; have h9_13 := b_117; unfold bd at h9_13; have h9_14 := b_141; unfold bd at h9_14; have h8_0 := kb_1; unfold bd at h8_0; have h8_1 := kb_12; unfold bd at h8_1; omega)
                    have ho_158 : (V_151.i 47 r_142.toNatClampNeg).toInt = 8 := (congrArg Int32.toInt (hN_153).2.2.2.1).trans (by decide)
                    obtain ⟨V_155, hV_156, hf_157, ho_158⟩ : ∃ V1 : PV, isV fr_142 q0_ V1 ∧ fin V_100 V1 r_142 12 o_ ∧ (V1.i 47 r_142.toNatClampNeg).toInt = 8 := ⟨_, hV_152, hf_154, ho_158⟩
                    have hf_157n := hf_157.2.2.2
                    have hx_159 := exN.tr hx_113 hf_157.1
                    have he_160 := exN.ev hf_157.1 hv_107
                    obtain rfl : op_ = y_116 := Int32.toInt_inj.mp (by have h9_0 := bo_; unfold bd at h9_0; have h9_1 := b_69; unfold bd at h9_1; have h9_2 := h_145; unfold bd at h9_2; have h9_3 := b_115; unfold bd at h9_3; have h9_4 := b_92; unfold bd at h9_4; have h9_5 := b_131; unfold bd at h9_5; have h9_6 := h_14; unfold bd at h9_6; have h9_7 := h_147; unfold bd at h9_7; have h9_8 := h_52; unfold bd at h9_8; have h9_9 := bx_56; unfold bd at h9_9; have h9_10 := h_64; unfold bd at h9_10; have h9_11 := h_87; unfold bd at h9_11; have h9_12 := h_98; unfold bd at h9_12; have h9_13 := b_117; unfold bd at h9_13; have h9_14 := b_141; unfold bd at h9_14; have h8_0 := kb_1; unfold bd at h8_0; have h8_1 := kb_12; unfold bd at h8_1; omega)
                    have h9c : cF fr_142 a0_ = _ := hG_149
                    subst hQ
                    exact iretX (v := r_142) hx hb hr (fun t ht hW => g_retZ g hK ⟨_, rfl, ⟨⟨_, hV_156, hF_150, hx_159, hf_157.2.1, hf_157.2.2.1, trivial, (by omega), (by omega), (by omega)⟩, x_97, h_98, (g.fcts [2, 3] rfl)⟩⟩ ht hW) g.2.2.1.2.2 dX14_readUnary_120 hlocks
          · have hG_161 := cEq.frame hMr_71 go_.2.2.2.1 ma0_ ka0_ (by decide) (by decide) hG_66
            have hG_162 := FR.frame hMr_71 go_.2.2.2.1 mq0_ kq0_ (by decide) (by decide) hG_67
            have hG_163 := isV.frame hMr_71 go_.2.2.2.1 mq0_ kq0_ (by decide) (by decide) hG_68
            obtain rfl : r_71 = 1 := h_73
            have g := g.more hF_76
            have e_164 := fx_same g 4 0 rfl rfl
            have g := g.sub (fx' := [(14, 25, a0_, .int x_63), (14, 8, a0_, .int x_56), (12, 58, q0_, .int x_51), (14, 6, a0_, .int x_13), (14, 2, a0_, .ref q0_), (14, 16, a0_, .int o_), (14, 10, a0_, .int t_)]) [1, 2, 3, 4, 5, 6, 7] rfl
            refine lv_if_eq (tgt := 49) hx hb dX14_readUnary_41 (by decide) (fun c_ => absurd c_ (by decide)) (fun c_ => ?_)
            refine lv_bipush (v := 7) hx hb dX14_readUnary_44 (by decide) ?_
            refine lv_goto (tgt := 51) hx hb dX14_readUnary_46 (by decide) ?_
            refine lv_istore_n (lv' := [(1, .int 7), (0, .ref a0_)]) hx hb dX14_readUnary_51 rfl hl (by decide) rfl (fun ls hl => ?_)
            refine lv_aload_n hx hb dX14_readUnary_52 rfl (lv_at hl 1 rfl) ?_
            refine g_getk (C := RX14) (T := TX14) (N := 67) hx hb hts (mc_ inX14) hown hK g rfl 8 (by decide) rfl (hts _ (List.mem_cons_of_mem _ t_2154)) (fun _ h9 => h9) 1 rfl dX14_readUnary_53 ?_
            refine lv_istore_n (lv' := [(2, .int x_56), (1, .int 7), (0, .ref a0_)]) hx hb dX14_readUnary_56 rfl hl (by decide) rfl (fun ls hl => ?_)
            refine lv_aload_n hx hb dX14_readUnary_57 rfl (lv_at hl 2 rfl) ?_
            have hs_165 := sE_1 g 3 rfl (by have h9_0 := bo_; unfold bd at h9_0; have h9_1 := b_69; unfold bd at h9_1; have h9_2 := bt_; unfold bd at h9_2; have h9_3 := h_14; unfold bd at h9_3; have h9_4 := h_52; unfold bd at h9_4; have h9_5 := bx_56; unfold bd at h9_5; have h9_6 := h_64; unfold bd at h9_6; have h9_7 := h_75; unfold bd at h9_7; omega)
            have go_ := g
            refine g_callEv (As := []) (rest := []) ⟨hx, hb, hml, hown, hts⟩ (r_X14_next_2 l dC dI L kd tys fr_71 H.size g.2.2.2.1 adK adV a0_ ma0_ ka0_ t_ bt_ (g.fcts [6] rfl)) (cwV 0 hts (gV_ t_2411 t_2413 t_102 t_198 t_2414) rfl rfl rfl (by decide +kernel) ⟨(show 6 + 1 ≤ N + 1 + 24 by omega), (show 8 + (1 + 11) + 135 ≤ 60 * (N + 1) + 700 by omega)⟩) (pre3VA g hK hAm ma0_ ka0_ (by decide) (q := (RX14, TX14, 67)) rfl) rfl hl.1 rfl (lv_room (Nat.le_of_ble_eq_true rfl)) dX14_readUnary_58 (cl_f hck_0) g hK (by decide) (by decide) (fx' := [(14, 25, a0_, .int x_63), (12, 58, q0_, .int x_51), (14, 2, a0_, .ref q0_), (14, 16, a0_, .int o_)]) rfl (fun xr_166 fr_166 H locs mxr_166 kxr_166 hp hMr_166 g => ?_) (fun fr_166 H locs hp hMr_166 g => ?_)
            · have hG_167 := FR.frame hMr_166 go_.2.2.2.1 mq0_ kq0_ (by decide) (by decide) hG_162
              have hG_168 := isV.frame hMr_166 go_.2.2.2.1 mq0_ kq0_ (by decide) (by decide) hG_163
              subst hQ
              exact leavesX hempty hlocks (fun t ht hW => g_thrZ g hK mxr_166 kxr_166 ⟨hG_167, (by omega)⟩ ht hW) g.2.2.1.2.2
            · obtain ⟨hx_169, h_170, x_171, h_172, hF_173⟩ := hp
              have hG_174 := FR.frame hMr_166 go_.2.2.2.1 mq0_ kq0_ (by decide) (by decide) hG_162
              have hG_175 := isV.frame hMr_166 go_.2.2.2.1 mq0_ kq0_ (by decide) (by decide) hG_163
              obtain ⟨E_176, hE_176⟩ : ∃ E : Int, cEq fr_166 a0_ E := ⟨_, rfl⟩
              have mxE_176 : E_176 ≤ 1202 := by have h9 := cF_le g ma0_ ka0_; have h8 : cF _ _ = _ := hE_176; omega
              have lE_176 : (cF f0 a0_) + 1 ≤ E_176 := by have h9 := hx_169; have h8 : cF _ _ = _ := hE_176; have h7 : cF _ _ = _ := hG_161; have h6 := hs_165; have h5 := tk_c (f := fr_71) (t := a0_); omega
              have b_177 : bd 0 1200 t_ := eqX rfl bt_ h_170 (by decide)
              have g := g.more hF_173
              refine lv_aload_n hx hb dX14_readUnary_61 rfl (lv_at hl 2 rfl) ?_
              have qc__178 : cF fr_166 a0_ = _ := hE_176
              have go_ := g
              refine g_callZi (As := []) (rest := []) ⟨hx, hb, hml, hown, hts⟩ (ih.2.1 l dC dI L kd tys fr_166 H.size g.2.2.2.1 adK adV a0_ ma0_ ka0_ q0_ mq0_ kq0_ V_ o_ bo_ x_63 (bd_sub h_64 (by decide)) x_171 h_172 hG_175 hwf ho (by omega) (K_ - cl_0) (by omega) (by have h9_0 := bo_; unfold bd at h9_0; have h9_1 := b_69; unfold bd at h9_1; have h9_2 := b_177; unfold bd at h9_2; have h9_3 := h_14; unfold bd at h9_3; have h9_4 := h_172; unfold bd at h9_4; have h9_5 := h_52; unfold bd at h9_5; have h9_6 := bx_56; unfold bd at h9_6; have h9_7 := h_64; unfold bd at h9_7; have h9_8 := h_75; unfold bd at h9_8; omega) (g.fcts [3, 4, 1, 0] rfl)) (cwV 0 hts (gV_ t_2468 t_2470 t_114 t_198 t_2471) rfl rfl rfl (by decide +kernel) ⟨(show N + 24 + 1 ≤ N + 1 + 24 by omega), (show 8 + (4 + 11) + (60 * N + 700) ≤ 60 * (N + 1) + 700 by omega)⟩) (pre3VA g hK hAm ma0_ ka0_ (by decide) (q := (RX14, TX14, 67)) rfl) rfl hl.1 rfl (lv_room (Nat.le_of_ble_eq_true rfl)) dX14_readUnary_62 (cl_k (K := K_) (k := K_ - cl_0) (show cl_0 + (K_ - cl_0) ≤ K_ by omega)) g hK (by decide) (by decide) (fx' := [(14, 2, a0_, .ref q0_), (14, 16, a0_, .int o_)]) rfl (fun xr_179 fr_179 H locs kr_179 cr_179 ecr_179 mxr_179 kxr_179 hp hMr_179 g => ?_) (fun r_179 fr_179 H locs kr_179 cr_179 ecr_179 hp hMr_179 g => ?_)
              · have hF_180 := FR.call (mds := []) (mas := []) hG_174 go_ mq0_ kq0_ rfl hp.1
                have hpk := hp.2
                subst hQ
                exact leavesX hempty hlocks (fun t ht hW => g_thrZ g hK mxr_179 kxr_179 ⟨hF_180, (by omega)⟩ ht hW) g.2.2.1.2.2
              · obtain ⟨hx_181, x_182, h_183, hF_184⟩ := hp
                obtain ⟨V_185, E_186, hV_187, hF_188, hE_189, hX_190, hw_191, hv_192, hP_193, hn_194, hk_195, hc_196⟩ := rd_use hx_181 hE_176
                have hF_197 := FR.call (mds := []) (mas := []) hG_174 go_ mq0_ kq0_ rfl hF_188
                have mxE_186 : E_186 ≤ 1202 := by have h9 := cF_le g ma0_ ka0_; have h8 : cF _ _ = _ := hE_189; omega
                have hx_198 := exN.tr exN.rf hX_190
                have hck_199 : cr_179 ≤ K_ := by omega
                have b_200 : bd 0 2499 r_179 := ⟨hv_192.1, (by have h9 := hv_192.2.1; omega)⟩
                have g := g.more hF_184
                refine lv_istore_n (lv' := [(3, .int r_179), (2, .int x_56), (1, .int 7), (0, .ref a0_)]) hx hb dX14_readUnary_65 rfl hl (by decide) rfl (fun ls hl => ?_)
                refine lv_aload_n hx hb dX14_readUnary_66 rfl (lv_at hl 3 rfl) ?_
                refine lv_dup hx hb dX14_readUnary_67 rfl ?_
                refine g_getk (C := RX14) (T := TX14) (N := 67) hx hb hts (mc_ inX14) hown hK g rfl 25 (by decide) rfl (hts _ (List.mem_cons_of_mem _ t_2171)) (fun _ h9 => h9) 0 rfl dX14_readUnary_68 ?_
                refine lv_iconst (v := 1) hx hb dX14_readUnary_71 (by decide) ?_
                have kb_1 : bd 1 1 (1 : Int32) := ⟨by decide, by decide⟩
                refine lv_isub hx hb dX14_readUnary_72 ?_
                refine lv_topi (fun y_201 ey_201 => ?_)
                have ty_201 := sub_bd ey_201 h_64 kb_1 (by decide)
                have b_202 : bd 0 39 y_201 := sub_rg ty_201 h_64 kb_1 (by decide)
                have go_ := g
                refine g_put (C := RX14) (T := TX14) (N := 67) hx hb hts (mc_ inX14) tyX14 tyX14_ok nmX14 hown hK g ma0_ ka0_ (by decide) rfl 25 (by decide) (hts _ (List.mem_cons_of_mem _ t_2171)) (fun _ h9 => h9) rfl rfl (okV_i (bd_sub b_202 (by decide))) rfl rfl (by decide) (Or.inr (Or.inl (by decide))) (fx' := [(14, 10, a0_, .int x_182), (14, 2, a0_, .ref q0_), (14, 16, a0_, .int o_)]) rfl dX14_readUnary_73 (fun f H locs hM_203 g => ?_)
                have hG_204 := isV.frame hM_203 go_.2.2.2.1 mq0_ kq0_ (by decide) (by decide) hV_187
                have hG_205 := FR.frame hM_203 go_.2.2.2.1 mq0_ kq0_ (by decide) (by decide) hF_197
                have hG_206 := cEq.frame hM_203 go_.2.2.2.1 ma0_ ka0_ (by decide) (by decide) hE_189
                refine lv_aload_n hx hb dX14_readUnary_76 rfl (lv_at hl 3 rfl) ?_
                refine lv_aload_n hx hb dX14_readUnary_77 rfl (lv_at hl 3 rfl) ?_
                refine g_getk (C := RX14) (T := TX14) (N := 67) hx hb hts (mc_ inX14) hown hK g rfl 2 (by decide) rfl (hts _ (List.mem_cons_of_mem _ t_2148)) (fun _ h9 => h9) 2 rfl dX14_readUnary_78 ?_
                refine g_getr (K := 205) (C := RX12) (T := TX12) (N := 60) hx hb hts (mc_ inX12) hown hK g mq0_ kq0_ (by decide) rfl 51 (by decide) rfl (hts _ (List.mem_cons_of_mem _ t_2006)) (fun _ h9 => h9) rfl dX14_readUnary_81 (fun a_207 ma_207 ka_207 g => ?_)
                refine lv_iload_n hx hb dX14_readUnary_84 rfl (lv_at hl 0 rfl) ?_
                refine g_iald hx hb hK g ma_207 ka_207 (by decide) rfl (in_bd b_200 (by decide)) dX14_readUnary_85 (fun x_208 bx_208 cx_208 => ?_)
                have vx_208 : x_208 = V_185.i 51 r_179.toNatClampNeg := hG_204.at g 0 rfl rfl cx_208
                have b_209 : bd 1 12 x_208 := ev_hb hw_191 hv_192 vx_208
                refine lv_bipush (v := 12) hx hb dX14_readUnary_86 (by decide) ?_
                have kb_12 : bd 12 12 (12 : Int32) := ⟨by decide, by decide⟩
                refine lv_icmp_ge (tgt := 95) hx hb dX14_readUnary_88 (by decide) (fun c_210 => ?_) (fun c_210 => ?_)
                · have fc_210 := le_f c_210
                  have b_211 : bd 12 12 x_208 := leR fc_210 kb_12 b_209 (by decide)
                  refine lv_iconst (v := 0) hx hb dX14_readUnary_95 (by decide) ?_
                  refine lv_bipush (v := 7) hx hb dX14_readUnary_96 (by decide) ?_
                  refine lv_iload_n hx hb dX14_readUnary_98 rfl (lv_at hl 1 rfl) ?_
                  have kb_0 : bd 0 0 (0 : Int32) := ⟨by decide, by decide⟩
                  have go_ := g
                  refine g_callEv (As := [.int 0, .int 7, .int x_56]) (rest := []) ⟨hx, hb, hml, hown, hts⟩ (r_X14_need_2 l dC dI L kd tys f H.size g.2.2.2.1 a0_ ma0_ ka0_ 0 kb_0 7 x_56) (cwV 3 hts (gV_ t_2403 t_2405 t_100 t_198 t_2406) rfl rfl rfl (by decide +kernel) ⟨(show 1 + 1 ≤ N + 1 + 24 by omega), (show 8 + (4 + 11) + 22 ≤ 60 * (N + 1) + 700 by omega)⟩) (pre3V g hK ma0_ ka0_ (by decide) (q := (RX14, TX14, 67)) rfl) rfl hl.1 rfl (lv_room (Nat.le_of_ble_eq_true rfl)) dX14_readUnary_99 (cl_f hck_199) g hK (by decide) (by decide) (fx' := [(12, 51, q0_, .ref a_207), (14, 25, a0_, .int y_201), (14, 10, a0_, .int x_182), (14, 2, a0_, .ref q0_), (14, 16, a0_, .int o_)]) rfl (fun xr_212 fr_212 H locs mxr_212 kxr_212 hp hMr_212 g => ?_) (fun fr_212 H locs hp hMr_212 g => ?_)
                  · have hG_213 := isV.frame hMr_212 go_.2.2.2.1 mq0_ kq0_ (by decide) (by decide) hG_204
                    have hG_214 := FR.frame hMr_212 go_.2.2.2.1 mq0_ kq0_ (by decide) (by decide) hG_205
                    have hG_215 := cEq.frame hMr_212 go_.2.2.2.1 ma0_ ka0_ (by decide) (by decide) hG_206
                    subst hQ
                    exact leavesX hempty hlocks (fun t ht hW => g_thrZ g hK mxr_212 kxr_212 ⟨hG_214, (by omega)⟩ ht hW) g.2.2.1.2.2
                  · exact hp.elim
                · have fc_210 := nle_f c_210
                  have b_216 : bd 1 11 x_208 := ltL fc_210 b_209 kb_12 (by decide)
                  refine lv_iconst (v := 1) hx hb dX14_readUnary_91 (by decide) ?_
                  refine lv_goto (tgt := 96) hx hb dX14_readUnary_92 (by decide) ?_
                  refine lv_bipush (v := 7) hx hb dX14_readUnary_96 (by decide) ?_
                  refine lv_iload_n hx hb dX14_readUnary_98 rfl (lv_at hl 1 rfl) ?_
                  have go_ := g
                  refine g_callEv (As := [.int 1, .int 7, .int x_56]) (rest := []) ⟨hx, hb, hml, hown, hts⟩ (r_X14_need_3 l dC dI L kd tys f H.size g.2.2.2.1 a0_ ma0_ ka0_ 1 kb_1 7 x_56) (cwV 3 hts (gV_ t_2403 t_2405 t_100 t_198 t_2406) rfl rfl rfl (by decide +kernel) ⟨(show 0 + 1 ≤ N + 1 + 24 by omega), (show 8 + (4 + 11) + 0 ≤ 60 * (N + 1) + 700 by omega)⟩) (pre3V g hK ma0_ ka0_ (by decide) (q := (RX14, TX14, 67)) rfl) rfl hl.1 rfl (lv_room (Nat.le_of_ble_eq_true rfl)) dX14_readUnary_99 (cl_f hck_199) g hK (by decide) (by decide) (fx' := [(12, 51, q0_, .ref a_207), (14, 25, a0_, .int y_201), (14, 10, a0_, .int x_182), (14, 2, a0_, .ref q0_), (14, 16, a0_, .int o_)]) rfl (fun xr_217 fr_217 H locs mxr_217 kxr_217 hp hMr_217 g => ?_) (fun fr_217 H locs hp hMr_217 g => ?_)
                  · have hG_218 := isV.frame hMr_217 go_.2.2.2.1 mq0_ kq0_ (by decide) (by decide) hG_204
                    have hG_219 := FR.frame hMr_217 go_.2.2.2.1 mq0_ kq0_ (by decide) (by decide) hG_205
                    have hG_220 := cEq.frame hMr_217 go_.2.2.2.1 ma0_ ka0_ (by decide) (by decide) hG_206
                    exact hp.elim
                  · have hG_221 := isV.frame hMr_217 go_.2.2.2.1 mq0_ kq0_ (by decide) (by decide) hG_204
                    have hG_222 := FR.frame hMr_217 go_.2.2.2.1 mq0_ kq0_ (by decide) (by decide) hG_205
                    have hG_223 := cEq.frame hMr_217 go_.2.2.2.1 ma0_ ka0_ (by decide) (by decide) hG_206
                    refine lv_aload_n hx hb dX14_readUnary_102 rfl (lv_at hl 3 rfl) ?_
                    refine lv_iload_n hx hb dX14_readUnary_103 rfl (lv_at hl 2 rfl) ?_
                    refine lv_iload_n hx hb dX14_readUnary_104 rfl (lv_at hl 0 rfl) ?_
                    refine lv_iconst (v := (-1)) hx hb dX14_readUnary_105 (by decide) ?_
                    refine lv_iconst (v := 1) hx hb dX14_readUnary_106 (by decide) ?_
                    refine lv_aload_n hx hb dX14_readUnary_107 rfl (lv_at hl 3 rfl) ?_
                    refine g_getk (C := RX14) (T := TX14) (N := 67) hx hb hts (mc_ inX14) hown hK g rfl 2 (by decide) rfl (hts _ (List.mem_cons_of_mem _ t_2148)) (fun _ h9 => h9) 3 rfl dX14_readUnary_108 ?_
                    refine g_getk (C := RX12) (T := TX12) (N := 60) hx hb hts (mc_ inX12) hown hK g rfl 51 (by decide) rfl (hts _ (List.mem_cons_of_mem _ t_2006)) (fun _ h9 => h9) 0 rfl dX14_readUnary_111 ?_
                    refine lv_iload_n hx hb dX14_readUnary_114 rfl (lv_at hl 0 rfl) ?_
                    refine g_iald hx hb hK g ma_207 ka_207 (by decide) rfl (in_bd b_200 (by decide)) dX14_readUnary_115 (fun x_224 bx_224 cx_224 => ?_)
                    obtain rfl : x_208 = x_224 := el_same cx_208 cx_224 (arr_eq hMr_217 ma_207 ka_207 (by decide) rfl)
                    refine lv_iadd hx hb dX14_readUnary_116 ?_
                    refine lv_topi (fun y_225 ey_225 => ?_)
                    have ty_225 := add_bd ey_225 kb_1 b_216 (by decide)
                    have b_226 : bd 2 12 y_225 := add_rg ty_225 kb_1 b_216 (by decide)
                    have hnb : (V_185.n 57).toInt ≤ 2499 := by omega
                    have go_ := g
                    refine g_calli (va_runV (As := [.int 7, .int r_179, .int (-1), .int y_225]) (rest := []) ⟨hx, hb, hml, hown, hts⟩ (r_X14_node l dC dI L kd tys fr_217 H.size g.2.2.2.1 a0_ ma0_ ka0_ 7 r_179 (-1) y_225 q0_ mq0_ kq0_ o_ bo_ V_185 hG_221 hnb (g.fcts [3, 4] rfl)) (cwV 4 hts (gV_ t_2480 t_2482 t_117 t_198 t_2483) rfl rfl rfl (by decide +kernel) ⟨(show 0 + 1 ≤ N + 1 + 24 by omega), (show 8 + (6 + 11) + 0 ≤ 60 * (N + 1) + 700 by omega)⟩) (pre3V g hK ma0_ ka0_ (by decide) (q := (RX14, TX14, 67)) rfl) rfl rfl hl.1 rfl (lv_room (Nat.le_of_ble_eq_true rfl)) dX14_readUnary_117 (cl_f hck_199)) g hK (by decide) (by decide) (fx' := [(12, 51, q0_, .ref a_207), (14, 25, a0_, .int y_201), (14, 10, a0_, .int x_182), (14, 2, a0_, .ref q0_), (14, 16, a0_, .int o_)]) rfl (fun r_227 fr_227 H locs hp hMr_227 g => ?_)
                    obtain ⟨hx_228, hx_229, h_230, x_231, h_232, hF_233⟩ := hp
                    have hG_234 := cEq.frame hMr_227 go_.2.2.2.1 ma0_ ka0_ (by decide) (by decide) hG_223
                    have hF_235 := FR.call (mds := []) (mas := []) hG_222 go_ mq0_ kq0_ rfl hx_229
                    obtain ⟨V_236, hV_237, hN_238⟩ := hx_228
                    have g := g.more hF_233
                    have hf_239 : fin V_185 V_236 r_227 12 o_ := nd_un hN_238 h_230.1 hw_191 ⟨(by have h9_0 := bo_; unfold bd at h9_0; have h9_1 := b_69; unfold bd at h9_1; have h9_2 := b_200; unfold bd at h9_2; have h9_3 := h_230; unfold bd at h9_3; have h9_4 := b_177; unfold bd at h9_4; have h9_5 := h_14; unfold bd at h9_5; have h9_6 := h_172; unfold bd at h9_6; have h9_7 := h_183; unfold bd at h9_7; have h9_8 := b_216; unfold bd at h9_8; have h9_9 := h_232; unfold bd at h9_9; have h9_10 := h_52; unfold bd at h9_10; have h9_11 := bx_56; unfold bd at h9_11; have h9_12 := h_64; unfold bd at h9_12; have h9_13 := h_75; unfold bd at h9_13; have h9_14 := b_202; unfold bd at h9_14; have h9_15 := b_226; unfold bd at h9_15; have h8_0 := kb_1; unfold bd at h8_0; have h8_1 := kb_12; unfold bd at h8_1; omega), (by have h9_0 := bo_; unfold bd at h9_0; have h9_1 := b_69; unfold bd at h9_1; have h9_2 := b_200; unfold bd at h9_2; have h9_3 := h_230; unfold bd at h9_3; have h9_4 := b_177; unfold bd at h9_4; have h9_5 := h_14; unfold bd at h9_5; have h9_6 := h_172; unfold bd at h9_6; have h9_7 := h_183; unfold bd at h9_7; have h9_8 := b_216; unfold bd at h9_8; have h9_9 := h_232; unfold bd at h9_9; have h9_10 := h_52; unfold bd at h9_10; have h9_11 := bx_56; unfold bd at h9_11; have h9_12 := h_64; unfold bd at h9_12; have h9_13 := h_75; unfold bd at h9_13; have h9_14 := b_202; unfold bd at h9_14; have h9_15 := b_226; unfold bd at h9_15; have h8_0 := kb_1; unfold bd at h8_0; have h8_1 := kb_12; unfold bd at h8_1; omega)⟩ (by have h9_0 := bo_; unfold bd at h9_0; have h9_1 := b_69; unfold bd at h9_1; have h9_2 := b_200; unfold bd at h9_2; have h9_3 := h_230; unfold bd at h9_3; have h9_4 := b_177; unfold bd at h9_4; have h9_5 := h_14; unfold bd at h9_5; have h9_6 := h_172; unfold bd at h9_6; have h9_7 := h_183; unfold bd at h9_7; have h9_8 := b_216; unfold bd at h9_8; have h9_9 := h_232; unfold bd at h9_9; have h9_10 := h_52; unfold bd at h9_10; have h9_11 := bx_56; unfold bd at h9_11; have h9_12 := h_64; unfold bd at h9_12; have h9_13 := h_75; unfold bd at h9_13; have h9_14 := b_202; unfold bd at h9_14; have h9_15 := b_226; unfold bd at h9_15; have h8_0 := kb_1; unfold bd at h8_0; have h8_1 := kb_12; unfold bd at h8_1; omega) (by rw [hx_198.2.2.1 0 (by decide)]; exact ho) (by decide) (EV.at_ hv_192 vx_208) (by have h9_0 := bo_; unfold bd at h9_0; have h9_1 := b_69; unfold bd at h9_1; have h9_2 := b_200; unfold bd at h9_2; have h9_3 := h_230; unfold bd at h9_3; have h9_4 := b_177; unfold bd at h9_4; have h9_5 := h_14; unfold bd at h9_5; have h9_6 := h_172; unfold bd at h9_6; have h9_7 := h_183; unfold bd at h9_7; have h9_8 := b_216; unfold bd at h9_8; have h9_9 := h_232; unfold bd at h9_9; have h9_10 := h_52; unfold bd at h9_10; have h9_11 := bx_56; unfold bd at h9_11; have h9_12 := h_64; unfold bd at h9_12; have h9_13 := h_75; unfold bd at h9_13; have h9_14 := b_202; unfold bd at h9_14; have h9_15 := b_226; unfold bd at h9_15; have h8_0 := kb_1; unfold bd at h8_0; have h8_1 := kb_12; unfold bd at h8_1; omega)
                    have ho_243 : (V_236.i 47 r_227.toNatClampNeg).toInt = 7 := (congrArg Int32.toInt (hN_238).2.2.2.1).trans (by decide)
                    obtain ⟨V_240, hV_241, hf_242, ho_243⟩ : ∃ V1 : PV, isV fr_227 q0_ V1 ∧ fin V_185 V1 r_227 12 o_ ∧ (V1.i 47 r_227.toNatClampNeg).toInt = 7 := ⟨_, hV_237, hf_239, ho_243⟩
                    have hf_242n := hf_242.2.2.2
                    have hx_244 := exN.tr hx_198 hf_242.1
                    have he_245 := exN.ev hf_242.1 hv_192
                    obtain rfl : op_ = y_201 := Int32.toInt_inj.mp (by have h9_0 := bo_; unfold bd at h9_0; have h9_1 := b_69; unfold bd at h9_1; have h9_2 := b_200; unfold bd at h9_2; have h9_3 := h_230; unfold bd at h9_3; have h9_4 := b_177; unfold bd at h9_4; have h9_5 := h_14; unfold bd at h9_5; have h9_6 := h_172; unfold bd at h9_6; have h9_7 := h_183; unfold bd at h9_7; have h9_8 := b_216; unfold bd at h9_8; have h9_9 := h_232; unfold bd at h9_9; have h9_10 := h_52; unfold bd at h9_10; have h9_11 := bx_56; unfold bd at h9_11; have h9_12 := h_64; unfold bd at h9_12; have h9_13 := h_75; unfold bd at h9_13; have h9_14 := b_202; unfold bd at h9_14; have h9_15 := b_226; unfold bd at h9_15; have h8_0 := kb_1; unfold bd at h8_0; have h8_1 := kb_12; unfold bd at h8_1; omega)
                    have h9c : cF fr_227 a0_ = _ := hG_234
                    subst hQ
                    exact iretX (v := r_227) hx hb hr (fun t ht hW => g_retZ g hK ⟨_, rfl, ⟨⟨_, hV_241, hF_235, hx_244, hf_242.2.1, hf_242.2.2.1, trivial, (by omega), (by omega), (by omega)⟩, x_182, h_183, (g.fcts [2, 3] rfl)⟩⟩ ht hW) g.2.2.1.2.2 dX14_readUnary_120 hlocks
  · have hG_246 := isV.frame hMr_1 go_.2.2.2.1 mq0_ kq0_ (by decide) (by decide) hV
    have hG_247 := FR.frame hMr_1 go_.2.2.2.1 mq0_ kq0_ (by decide) (by decide) FR.refl
    have hG_248 := cEq.frame hMr_1 go_.2.2.2.1 ma0_ ka0_ (by decide) (by decide) hC_0
    obtain rfl : r_1 = 1 := h_3
    have g := g.more hF_6
    refine lv_if_ne (tgt := 23) hx hb dX14_readUnary_6 (by decide) (fun c_ => ?_) (fun c_ => absurd c_ (by decide))
    refine lv_aload_n hx hb dX14_readUnary_23 rfl (lv_at hl 0 rfl) ?_
    have hs_249 := sE_1 g 0 rfl (by have h9_0 := bo_; unfold bd at h9_0; have h9_1 := bop_; unfold bd at h9_1; have h9_2 := bt_; unfold bd at h9_2; have h9_3 := h_5; unfold bd at h9_3; omega)
    have go_ := g
    refine g_callEv (As := []) (rest := []) ⟨hx, hb, hml, hown, hts⟩ (r_X14_counts_2 l dC dI L kd tys fr_1 H.size g.2.2.2.1 a0_ ma0_ ka0_ q0_ mq0_ kq0_ V_ hG_246 (g.fcts [1] rfl)) (cwV 0 hts (gV_ t_2476 t_2478 t_116 t_198 t_2479) rfl rfl rfl (by decide +kernel) ⟨(show 2 + 1 ≤ N + 1 + 24 by omega), (show 8 + (1 + 11) + 45 ≤ 60 * (N + 1) + 700 by omega)⟩) (pre3V g hK ma0_ ka0_ (by decide) (q := (RX14, TX14, 67)) rfl) rfl hl.1 rfl (lv_room (Nat.le_of_ble_eq_true rfl)) dX14_readUnary_24 (cl_f hck_0) g hK (by decide) (by decide) (fx' := [(14, 6, a0_, .int x_4), (14, 2, a0_, .ref q0_), (14, 16, a0_, .int o_), (14, 25, a0_, .int op_), (14, 10, a0_, .int t_)]) rfl (fun xr_250 fr_250 H locs mxr_250 kxr_250 hp hMr_250 g => ?_) (fun fr_250 H locs hp hMr_250 g => ?_)
    · have hG_251 := cEq.frame hMr_250 go_.2.2.2.1 ma0_ ka0_ (by decide) (by decide) hG_248
      have hF_252 := FR.call (mds := []) (mas := []) hG_247 go_ mq0_ kq0_ rfl hp
      subst hQ
      exact leavesX hempty hlocks (fun t ht hW => g_thrZ g hK mxr_250 kxr_250 ⟨hF_252, (by omega)⟩ ht hW) g.2.2.1.2.2
    · obtain ⟨hx_253, hx_254, x_255, h_256, hF_257⟩ := hp
      have hG_258 := cEq.frame hMr_250 go_.2.2.2.1 ma0_ ka0_ (by decide) (by decide) hG_248
      have hF_259 := FR.call (mds := []) (mas := []) hG_247 go_ mq0_ kq0_ rfl hx_254
      have g := g.more hF_257
      refine lv_aload_n hx hb dX14_readUnary_27 rfl (lv_at hl 0 rfl) ?_
      refine lv_aload_n hx hb dX14_readUnary_28 rfl (lv_at hl 0 rfl) ?_
      refine g_geti (C := RX14) (T := TX14) (N := 67) hx hb hts (mc_ inX14) hown hK g ma0_ ka0_ (by decide) rfl 8 (by decide) rfl (hts _ (List.mem_cons_of_mem _ t_2154)) (fun _ h9 => h9) rfl dX14_readUnary_29 (fun x_260 bx_260 g => ?_)
      have hs_261 := sE_1 g 2 rfl (by have h9_0 := bo_; unfold bd at h9_0; have h9_1 := bop_; unfold bd at h9_1; have h9_2 := bt_; unfold bd at h9_2; have h9_3 := h_256; unfold bd at h9_3; have h9_4 := bx_260; unfold bd at h9_4; have h9_5 := h_5; unfold bd at h9_5; omega)
      have go_ := g
      refine g_callEv (As := [.int x_260]) (rest := []) ⟨hx, hb, hml, hown, hts⟩ (r_X14_opens_2 l dC dI L kd tys fr_250 H.size g.2.2.2.1 a0_ ma0_ ka0_ x_260 op_ bop_ (g.fcts [5] rfl)) (cwV 1 hts (gV_ t_2488 t_2490 t_119 t_198 t_2491) rfl rfl rfl (by decide +kernel) ⟨(show 2 + 1 ≤ N + 1 + 24 by omega), (show 8 + (2 + 11) + 45 ≤ 60 * (N + 1) + 700 by omega)⟩) (pre3V g hK ma0_ ka0_ (by decide) (q := (RX14, TX14, 67)) rfl) rfl hl.1 rfl (lv_room (Nat.le_of_ble_eq_true rfl)) dX14_readUnary_32 (cl_f hck_0) g hK (by decide) (by decide) (fx' := [(14, 8, a0_, .int x_260), (12, 58, q0_, .int x_255), (14, 6, a0_, .int x_4), (14, 2, a0_, .ref q0_), (14, 16, a0_, .int o_), (14, 10, a0_, .int t_)]) rfl (fun xr_262 fr_262 H locs mxr_262 kxr_262 hp hMr_262 g => ?_) (fun fr_262 H locs hp hMr_262 g => ?_)
      · have hG_263 := cEq.frame hMr_262 go_.2.2.2.1 ma0_ ka0_ (by decide) (by decide) hG_258
        have hG_264 := FR.frame hMr_262 go_.2.2.2.1 mq0_ kq0_ (by decide) (by decide) hF_259
        have hG_265 := isV.frame hMr_262 go_.2.2.2.1 mq0_ kq0_ (by decide) (by decide) hx_253
        subst hQ
        exact leavesX hempty hlocks (fun t ht hW => g_thrZ g hK mxr_262 kxr_262 ⟨hG_264, (by omega)⟩ ht hW) g.2.2.1.2.2
      · obtain ⟨h_266, x_267, ⟨h_268, rh_268⟩, hF_269⟩ := hp
        have hG_270 := cEq.frame hMr_262 go_.2.2.2.1 ma0_ ka0_ (by decide) (by decide) hG_258
        have hG_271 := FR.frame hMr_262 go_.2.2.2.1 mq0_ kq0_ (by decide) (by decide) hF_259
        have hG_272 := isV.frame hMr_262 go_.2.2.2.1 mq0_ kq0_ (by decide) (by decide) hx_253
        have b_273 : bd 0 39 op_ := eqX rfl bop_ h_266 (by decide)
        have g := g.more hF_269
        refine lv_aload_n hx hb dX14_readUnary_35 rfl (lv_at hl 0 rfl) ?_
        refine lv_bipush (v := 45) hx hb dX14_readUnary_36 (by decide) ?_
        have hs_274 := sE_1 g 3 rfl (by have h9_0 := bo_; unfold bd at h9_0; have h9_1 := b_273; unfold bd at h9_1; have h9_2 := bt_; unfold bd at h9_2; have h9_3 := h_256; unfold bd at h9_3; have h9_4 := bx_260; unfold bd at h9_4; have h9_5 := h_268; unfold bd at h9_5; have h9_6 := h_5; unfold bd at h9_6; omega)
        have go_ := g
        refine g_calli (va_runV (As := [.int 45]) (rest := []) ⟨hx, hb, hml, hown, hts⟩ (r_X14_isSign l dC dI L kd tys fr_262 H.size g.2.2.2.1 a0_ ma0_ ka0_ 45) (cwV 1 hts (gV_ t_2435 t_2437 t_108 t_198 t_2438) rfl rfl rfl (by decide +kernel) ⟨(show 0 + 1 ≤ N + 1 + 24 by omega), (show 8 + (2 + 11) + 0 ≤ 60 * (N + 1) + 700 by omega)⟩) (pre3V g hK ma0_ ka0_ (by decide) (q := (RX14, TX14, 67)) rfl) rfl rfl hl.1 rfl (lv_room (Nat.le_of_ble_eq_true rfl)) dX14_readUnary_38 (cl_f hck_0)) g hK (by decide) (by decide) (fx' := [(14, 25, a0_, .int x_267), (14, 8, a0_, .int x_260), (12, 58, q0_, .int x_255), (14, 6, a0_, .int x_4), (14, 2, a0_, .ref q0_), (14, 16, a0_, .int o_), (14, 10, a0_, .int t_)]) rfl (fun r_275 fr_275 H locs hp hMr_275 g => ?_)
        rcases hp with ⟨h_276, -⟩ | ⟨h_277, x_278, h_279, hF_280⟩
        · have hG_281 := cEq.frame hMr_275 go_.2.2.2.1 ma0_ ka0_ (by decide) (by decide) hG_270
          have hG_282 := FR.frame hMr_275 go_.2.2.2.1 mq0_ kq0_ (by decide) (by decide) hG_271
          have hG_283 := isV.frame hMr_275 go_.2.2.2.1 mq0_ kq0_ (by decide) (by decide) hG_272
          obtain rfl : r_275 = 0 := h_276
          refine lv_if_eq (tgt := 49) hx hb dX14_readUnary_41 (by decide) (fun c_ => ?_) (fun c_ => absurd (by decide) c_)
          refine lv_bipush (v := 8) hx hb dX14_readUnary_49 (by decide) ?_
          refine lv_istore_n (lv' := [(1, .int 8), (0, .ref a0_)]) hx hb dX14_readUnary_51 rfl hl (by decide) rfl (fun ls hl => ?_)
          refine lv_aload_n hx hb dX14_readUnary_52 rfl (lv_at hl 1 rfl) ?_
          refine g_getk (C := RX14) (T := TX14) (N := 67) hx hb hts (mc_ inX14) hown hK g rfl 8 (by decide) rfl (hts _ (List.mem_cons_of_mem _ t_2154)) (fun _ h9 => h9) 1 rfl dX14_readUnary_53 ?_
          refine lv_istore_n (lv' := [(2, .int x_260), (1, .int 8), (0, .ref a0_)]) hx hb dX14_readUnary_56 rfl hl (by decide) rfl (fun ls hl => ?_)
          refine lv_aload_n hx hb dX14_readUnary_57 rfl (lv_at hl 2 rfl) ?_
          have hs_284 := sE_1 g 3 rfl (by have h9_0 := bo_; unfold bd at h9_0; have h9_1 := b_273; unfold bd at h9_1; have h9_2 := bt_; unfold bd at h9_2; have h9_3 := h_256; unfold bd at h9_3; have h9_4 := bx_260; unfold bd at h9_4; have h9_5 := h_268; unfold bd at h9_5; have h9_6 := h_5; unfold bd at h9_6; omega)
          have go_ := g
          refine g_callEv (As := []) (rest := []) ⟨hx, hb, hml, hown, hts⟩ (r_X14_next_2 l dC dI L kd tys fr_275 H.size g.2.2.2.1 adK adV a0_ ma0_ ka0_ t_ bt_ (g.fcts [6] rfl)) (cwV 0 hts (gV_ t_2411 t_2413 t_102 t_198 t_2414) rfl rfl rfl (by decide +kernel) ⟨(show 6 + 1 ≤ N + 1 + 24 by omega), (show 8 + (1 + 11) + 135 ≤ 60 * (N + 1) + 700 by omega)⟩) (pre3VA g hK hAm ma0_ ka0_ (by decide) (q := (RX14, TX14, 67)) rfl) rfl hl.1 rfl (lv_room (Nat.le_of_ble_eq_true rfl)) dX14_readUnary_58 (cl_f hck_0) g hK (by decide) (by decide) (fx' := [(14, 25, a0_, .int x_267), (12, 58, q0_, .int x_255), (14, 2, a0_, .ref q0_), (14, 16, a0_, .int o_)]) rfl (fun xr_285 fr_285 H locs mxr_285 kxr_285 hp hMr_285 g => ?_) (fun fr_285 H locs hp hMr_285 g => ?_)
          · have hG_286 := FR.frame hMr_285 go_.2.2.2.1 mq0_ kq0_ (by decide) (by decide) hG_282
            have hG_287 := isV.frame hMr_285 go_.2.2.2.1 mq0_ kq0_ (by decide) (by decide) hG_283
            subst hQ
            exact leavesX hempty hlocks (fun t ht hW => g_thrZ g hK mxr_285 kxr_285 ⟨hG_286, (by omega)⟩ ht hW) g.2.2.1.2.2
          · obtain ⟨hx_288, h_289, x_290, h_291, hF_292⟩ := hp
            have hG_293 := FR.frame hMr_285 go_.2.2.2.1 mq0_ kq0_ (by decide) (by decide) hG_282
            have hG_294 := isV.frame hMr_285 go_.2.2.2.1 mq0_ kq0_ (by decide) (by decide) hG_283
            obtain ⟨E_295, hE_295⟩ : ∃ E : Int, cEq fr_285 a0_ E := ⟨_, rfl⟩
            have mxE_295 : E_295 ≤ 1202 := by have h9 := cF_le g ma0_ ka0_; have h8 : cF _ _ = _ := hE_295; omega
            have lE_295 : (cF f0 a0_) + 1 ≤ E_295 := by have h9 := hx_288; have h8 : cF _ _ = _ := hE_295; have h7 : cF _ _ = _ := hG_281; have h6 := hs_284; have h5 := tk_c (f := fr_275) (t := a0_); omega
            have b_296 : bd 0 1200 t_ := eqX rfl bt_ h_289 (by decide)
            have g := g.more hF_292
            refine lv_aload_n hx hb dX14_readUnary_61 rfl (lv_at hl 2 rfl) ?_
            have qc__297 : cF fr_285 a0_ = _ := hE_295
            have go_ := g
            refine g_callZi (As := []) (rest := []) ⟨hx, hb, hml, hown, hts⟩ (ih.2.1 l dC dI L kd tys fr_285 H.size g.2.2.2.1 adK adV a0_ ma0_ ka0_ q0_ mq0_ kq0_ V_ o_ bo_ x_267 (bd_sub h_268 (by decide)) x_290 h_291 hG_294 hwf ho (by omega) (K_ - cl_0) (by omega) (by have h9_0 := bo_; unfold bd at h9_0; have h9_1 := b_273; unfold bd at h9_1; have h9_2 := b_296; unfold bd at h9_2; have h9_3 := h_256; unfold bd at h9_3; have h9_4 := bx_260; unfold bd at h9_4; have h9_5 := h_268; unfold bd at h9_5; have h9_6 := h_291; unfold bd at h9_6; have h9_7 := h_5; unfold bd at h9_7; omega) (g.fcts [3, 4, 1, 0] rfl)) (cwV 0 hts (gV_ t_2468 t_2470 t_114 t_198 t_2471) rfl rfl rfl (by decide +kernel) ⟨(show N + 24 + 1 ≤ N + 1 + 24 by omega), (show 8 + (4 + 11) + (60 * N + 700) ≤ 60 * (N + 1) + 700 by omega)⟩) (pre3VA g hK hAm ma0_ ka0_ (by decide) (q := (RX14, TX14, 67)) rfl) rfl hl.1 rfl (lv_room (Nat.le_of_ble_eq_true rfl)) dX14_readUnary_62 (cl_k (K := K_) (k := K_ - cl_0) (show cl_0 + (K_ - cl_0) ≤ K_ by omega)) g hK (by decide) (by decide) (fx' := [(14, 2, a0_, .ref q0_), (14, 16, a0_, .int o_)]) rfl (fun xr_298 fr_298 H locs kr_298 cr_298 ecr_298 mxr_298 kxr_298 hp hMr_298 g => ?_) (fun r_298 fr_298 H locs kr_298 cr_298 ecr_298 hp hMr_298 g => ?_)
            · have hF_299 := FR.call (mds := []) (mas := []) hG_293 go_ mq0_ kq0_ rfl hp.1
              have hpk := hp.2
              subst hQ
              exact leavesX hempty hlocks (fun t ht hW => g_thrZ g hK mxr_298 kxr_298 ⟨hF_299, (by omega)⟩ ht hW) g.2.2.1.2.2
            · obtain ⟨hx_300, x_301, h_302, hF_303⟩ := hp
              obtain ⟨V_304, E_305, hV_306, hF_307, hE_308, hX_309, hw_310, hv_311, hP_312, hn_313, hk_314, hc_315⟩ := rd_use hx_300 hE_295
              have hF_316 := FR.call (mds := []) (mas := []) hG_293 go_ mq0_ kq0_ rfl hF_307
              have mxE_305 : E_305 ≤ 1202 := by have h9 := cF_le g ma0_ ka0_; have h8 : cF _ _ = _ := hE_308; omega
              have hx_317 := exN.tr exN.rf hX_309
              have hck_318 : cr_298 ≤ K_ := by omega
              have b_319 : bd 0 2499 r_298 := ⟨hv_311.1, (by have h9 := hv_311.2.1; omega)⟩
              have g := g.more hF_303
              refine lv_istore_n (lv' := [(3, .int r_298), (2, .int x_260), (1, .int 8), (0, .ref a0_)]) hx hb dX14_readUnary_65 rfl hl (by decide) rfl (fun ls hl => ?_)
              refine lv_aload_n hx hb dX14_readUnary_66 rfl (lv_at hl 3 rfl) ?_
              refine lv_dup hx hb dX14_readUnary_67 rfl ?_
              refine g_getk (C := RX14) (T := TX14) (N := 67) hx hb hts (mc_ inX14) hown hK g rfl 25 (by decide) rfl (hts _ (List.mem_cons_of_mem _ t_2171)) (fun _ h9 => h9) 0 rfl dX14_readUnary_68 ?_
              refine lv_iconst (v := 1) hx hb dX14_readUnary_71 (by decide) ?_
              have kb_1 : bd 1 1 (1 : Int32) := ⟨by decide, by decide⟩
              refine lv_isub hx hb dX14_readUnary_72 ?_
              refine lv_topi (fun y_320 ey_320 => ?_)
              have ty_320 := sub_bd ey_320 h_268 kb_1 (by decide)
              have b_321 : bd 0 39 y_320 := sub_rg ty_320 h_268 kb_1 (by decide)
              have go_ := g
              refine g_put (C := RX14) (T := TX14) (N := 67) hx hb hts (mc_ inX14) tyX14 tyX14_ok nmX14 hown hK g ma0_ ka0_ (by decide) rfl 25 (by decide) (hts _ (List.mem_cons_of_mem _ t_2171)) (fun _ h9 => h9) rfl rfl (okV_i (bd_sub b_321 (by decide))) rfl rfl (by decide) (Or.inr (Or.inl (by decide))) (fx' := [(14, 10, a0_, .int x_301), (14, 2, a0_, .ref q0_), (14, 16, a0_, .int o_)]) rfl dX14_readUnary_73 (fun f H locs hM_322 g => ?_)
              have hG_323 := isV.frame hM_322 go_.2.2.2.1 mq0_ kq0_ (by decide) (by decide) hV_306
              have hG_324 := FR.frame hM_322 go_.2.2.2.1 mq0_ kq0_ (by decide) (by decide) hF_316
              have hG_325 := cEq.frame hM_322 go_.2.2.2.1 ma0_ ka0_ (by decide) (by decide) hE_308
              refine lv_aload_n hx hb dX14_readUnary_76 rfl (lv_at hl 3 rfl) ?_
              refine lv_aload_n hx hb dX14_readUnary_77 rfl (lv_at hl 3 rfl) ?_
              refine g_getk (C := RX14) (T := TX14) (N := 67) hx hb hts (mc_ inX14) hown hK g rfl 2 (by decide) rfl (hts _ (List.mem_cons_of_mem _ t_2148)) (fun _ h9 => h9) 2 rfl dX14_readUnary_78 ?_
              refine g_getr (K := 205) (C := RX12) (T := TX12) (N := 60) hx hb hts (mc_ inX12) hown hK g mq0_ kq0_ (by decide) rfl 51 (by decide) rfl (hts _ (List.mem_cons_of_mem _ t_2006)) (fun _ h9 => h9) rfl dX14_readUnary_81 (fun a_326 ma_326 ka_326 g => ?_)
              refine lv_iload_n hx hb dX14_readUnary_84 rfl (lv_at hl 0 rfl) ?_
              refine g_iald hx hb hK g ma_326 ka_326 (by decide) rfl (in_bd b_319 (by decide)) dX14_readUnary_85 (fun x_327 bx_327 cx_327 => ?_)
              have vx_327 : x_327 = V_304.i 51 r_298.toNatClampNeg := hG_323.at g 0 rfl rfl cx_327
              have b_328 : bd 1 12 x_327 := ev_hb hw_310 hv_311 vx_327
              refine lv_bipush (v := 12) hx hb dX14_readUnary_86 (by decide) ?_
              have kb_12 : bd 12 12 (12 : Int32) := ⟨by decide, by decide⟩
              refine lv_icmp_ge (tgt := 95) hx hb dX14_readUnary_88 (by decide) (fun c_329 => ?_) (fun c_329 => ?_)
              · have fc_329 := le_f c_329
                have b_330 : bd 12 12 x_327 := leR fc_329 kb_12 b_328 (by decide)
                refine lv_iconst (v := 0) hx hb dX14_readUnary_95 (by decide) ?_
                refine lv_bipush (v := 7) hx hb dX14_readUnary_96 (by decide) ?_
                refine lv_iload_n hx hb dX14_readUnary_98 rfl (lv_at hl 1 rfl) ?_
                have kb_0 : bd 0 0 (0 : Int32) := ⟨by decide, by decide⟩
                have go_ := g
                refine g_callEv (As := [.int 0, .int 7, .int x_260]) (rest := []) ⟨hx, hb, hml, hown, hts⟩ (r_X14_need_2 l dC dI L kd tys f H.size g.2.2.2.1 a0_ ma0_ ka0_ 0 kb_0 7 x_260) (cwV 3 hts (gV_ t_2403 t_2405 t_100 t_198 t_2406) rfl rfl rfl (by decide +kernel) ⟨(show 1 + 1 ≤ N + 1 + 24 by omega), (show 8 + (4 + 11) + 22 ≤ 60 * (N + 1) + 700 by omega)⟩) (pre3V g hK ma0_ ka0_ (by decide) (q := (RX14, TX14, 67)) rfl) rfl hl.1 rfl (lv_room (Nat.le_of_ble_eq_true rfl)) dX14_readUnary_99 (cl_f hck_318) g hK (by decide) (by decide) (fx' := [(12, 51, q0_, .ref a_326), (14, 25, a0_, .int y_320), (14, 10, a0_, .int x_301), (14, 2, a0_, .ref q0_), (14, 16, a0_, .int o_)]) rfl (fun xr_331 fr_331 H locs mxr_331 kxr_331 hp hMr_331 g => ?_) (fun fr_331 H locs hp hMr_331 g => ?_)
                · have hG_332 := isV.frame hMr_331 go_.2.2.2.1 mq0_ kq0_ (by decide) (by decide) hG_323
                  have hG_333 := FR.frame hMr_331 go_.2.2.2.1 mq0_ kq0_ (by decide) (by decide) hG_324
                  have hG_334 := cEq.frame hMr_331 go_.2.2.2.1 ma0_ ka0_ (by decide) (by decide) hG_325
                  subst hQ
                  exact leavesX hempty hlocks (fun t ht hW => g_thrZ g hK mxr_331 kxr_331 ⟨hG_333, (by omega)⟩ ht hW) g.2.2.1.2.2
                · exact hp.elim
              · have fc_329 := nle_f c_329
                have b_335 : bd 1 11 x_327 := ltL fc_329 b_328 kb_12 (by decide)
                refine lv_iconst (v := 1) hx hb dX14_readUnary_91 (by decide) ?_
                refine lv_goto (tgt := 96) hx hb dX14_readUnary_92 (by decide) ?_
                refine lv_bipush (v := 7) hx hb dX14_readUnary_96 (by decide) ?_
                refine lv_iload_n hx hb dX14_readUnary_98 rfl (lv_at hl 1 rfl) ?_
                have go_ := g
                refine g_callEv (As := [.int 1, .int 7, .int x_260]) (rest := []) ⟨hx, hb, hml, hown, hts⟩ (r_X14_need_3 l dC dI L kd tys f H.size g.2.2.2.1 a0_ ma0_ ka0_ 1 kb_1 7 x_260) (cwV 3 hts (gV_ t_2403 t_2405 t_100 t_198 t_2406) rfl rfl rfl (by decide +kernel) ⟨(show 0 + 1 ≤ N + 1 + 24 by omega), (show 8 + (4 + 11) + 0 ≤ 60 * (N + 1) + 700 by omega)⟩) (pre3V g hK ma0_ ka0_ (by decide) (q := (RX14, TX14, 67)) rfl) rfl hl.1 rfl (lv_room (Nat.le_of_ble_eq_true rfl)) dX14_readUnary_99 (cl_f hck_318) g hK (by decide) (by decide) (fx' := [(12, 51, q0_, .ref a_326), (14, 25, a0_, .int y_320), (14, 10, a0_, .int x_301), (14, 2, a0_, .ref q0_), (14, 16, a0_, .int o_)]) rfl (fun xr_336 fr_336 H locs mxr_336 kxr_336 hp hMr_336 g => ?_) (fun fr_336 H locs hp hMr_336 g => ?_)
                · have hG_337 := isV.frame hMr_336 go_.2.2.2.1 mq0_ kq0_ (by decide) (by decide) hG_323
                  have hG_338 := FR.frame hMr_336 go_.2.2.2.1 mq0_ kq0_ (by decide) (by decide) hG_324
                  have hG_339 := cEq.frame hMr_336 go_.2.2.2.1 ma0_ ka0_ (by decide) (by decide) hG_325
                  exact hp.elim
                · have hG_340 := isV.frame hMr_336 go_.2.2.2.1 mq0_ kq0_ (by decide) (by decide) hG_323
                  have hG_341 := FR.frame hMr_336 go_.2.2.2.1 mq0_ kq0_ (by decide) (by decide) hG_324
                  have hG_342 := cEq.frame hMr_336 go_.2.2.2.1 ma0_ ka0_ (by decide) (by decide) hG_325
                  refine lv_aload_n hx hb dX14_readUnary_102 rfl (lv_at hl 3 rfl) ?_
                  refine lv_iload_n hx hb dX14_readUnary_103 rfl (lv_at hl 2 rfl) ?_
                  refine lv_iload_n hx hb dX14_readUnary_104 rfl (lv_at hl 0 rfl) ?_
                  refine lv_iconst (v := (-1)) hx hb dX14_readUnary_105 (by decide) ?_
                  refine lv_iconst (v := 1) hx hb dX14_readUnary_106 (by decide) ?_
                  refine lv_aload_n hx hb dX14_readUnary_107 rfl (lv_at hl 3 rfl) ?_
                  refine g_getk (C := RX14) (T := TX14) (N := 67) hx hb hts (mc_ inX14) hown hK g rfl 2 (by decide) rfl (hts _ (List.mem_cons_of_mem _ t_2148)) (fun _ h9 => h9) 3 rfl dX14_readUnary_108 ?_
                  refine g_getk (C := RX12) (T := TX12) (N := 60) hx hb hts (mc_ inX12) hown hK g rfl 51 (by decide) rfl (hts _ (List.mem_cons_of_mem _ t_2006)) (fun _ h9 => h9) 0 rfl dX14_readUnary_111 ?_
                  refine lv_iload_n hx hb dX14_readUnary_114 rfl (lv_at hl 0 rfl) ?_
                  refine g_iald hx hb hK g ma_326 ka_326 (by decide) rfl (in_bd b_319 (by decide)) dX14_readUnary_115 (fun x_343 bx_343 cx_343 => ?_)
                  obtain rfl : x_327 = x_343 := el_same cx_327 cx_343 (arr_eq hMr_336 ma_326 ka_326 (by decide) rfl)
                  refine lv_iadd hx hb dX14_readUnary_116 ?_
                  refine lv_topi (fun y_344 ey_344 => ?_)
                  have ty_344 := add_bd ey_344 kb_1 b_335 (by decide)
                  have b_345 : bd 2 12 y_344 := add_rg ty_344 kb_1 b_335 (by decide)
                  have hnb : (V_304.n 57).toInt ≤ 2499 := by omega
                  have go_ := g
                  refine g_calli (va_runV (As := [.int 8, .int r_298, .int (-1), .int y_344]) (rest := []) ⟨hx, hb, hml, hown, hts⟩ (r_X14_node l dC dI L kd tys fr_336 H.size g.2.2.2.1 a0_ ma0_ ka0_ 8 r_298 (-1) y_344 q0_ mq0_ kq0_ o_ bo_ V_304 hG_340 hnb (g.fcts [3, 4] rfl)) (cwV 4 hts (gV_ t_2480 t_2482 t_117 t_198 t_2483) rfl rfl rfl (by decide +kernel) ⟨(show 0 + 1 ≤ N + 1 + 24 by omega), (show 8 + (6 + 11) + 0 ≤ 60 * (N + 1) + 700 by omega)⟩) (pre3V g hK ma0_ ka0_ (by decide) (q := (RX14, TX14, 67)) rfl) rfl rfl hl.1 rfl (lv_room (Nat.le_of_ble_eq_true rfl)) dX14_readUnary_117 (cl_f hck_318)) g hK (by decide) (by decide) (fx' := [(12, 51, q0_, .ref a_326), (14, 25, a0_, .int y_320), (14, 10, a0_, .int x_301), (14, 2, a0_, .ref q0_), (14, 16, a0_, .int o_)]) rfl (fun r_346 fr_346 H locs hp hMr_346 g => ?_)
                  obtain ⟨hx_347, hx_348, h_349, x_350, h_351, hF_352⟩ := hp
                  have hG_353 := cEq.frame hMr_346 go_.2.2.2.1 ma0_ ka0_ (by decide) (by decide) hG_342
                  have hF_354 := FR.call (mds := []) (mas := []) hG_341 go_ mq0_ kq0_ rfl hx_348
                  obtain ⟨V_355, hV_356, hN_357⟩ := hx_347
                  have g := g.more hF_352
                  have hf_358 : fin V_304 V_355 r_346 12 o_ := nd_un hN_357 h_349.1 hw_310 ⟨(by have h9_0 := bo_; unfold bd at h9_0; have h9_1 := b_273; unfold bd at h9_1; have h9_2 := b_319; unfold bd at h9_2; have h9_3 := h_349; unfold bd at h9_3; have h9_4 := b_296; unfold bd at h9_4; have h9_5 := h_256; unfold bd at h9_5; have h9_6 := bx_260; unfold bd at h9_6; have h9_7 := h_268; unfold bd at h9_7; have h9_8 := h_291; unfold bd at h9_8; have h9_9 := h_302; unfold bd at h9_9; have h9_10 := b_335; unfold bd at h9_10; have h9_11 := h_351; unfold bd at h9_11; have h9_12 := h_5; unfold bd at h9_12; have h9_13 := b_321; unfold bd at h9_13; have h9_14 := b_345; unfold bd at h9_14; have h8_0 := kb_1; unfold bd at h8_0; have h8_1 := kb_12; unfold bd at h8_1; omega), (by have h9_0 := bo_; unfold bd at h9_0; have h9_1 := b_273; unfold bd at h9_1; have h9_2 := b_319; unfold bd at h9_2; have h9_3 := h_349; unfold bd at h9_3; have h9_4 := b_296; unfold bd at h9_4; have h9_5 := h_256; unfold bd at h9_5; have h9_6 := bx_260; unfold bd at h9_6; have h9_7 := h_268; unfold bd at h9_7; have h9_8 := h_291; unfold bd at h9_8; have h9_9 := h_302; unfold bd at h9_9; have h9_10 := b_335; unfold bd at h9_10; have h9_11 := h_351; unfold bd at h9_11; have h9_12 := h_5; unfold bd at h9_12; have h9_13 := b_321; unfold bd at h9_13; have h9_14 := b_345; unfold bd at h9_14; have h8_0 := kb_1; unfold bd at h8_0; have h8_1 := kb_12; unfold bd at h8_1; omega)⟩ (by have h9_0 := bo_; unfold bd at h9_0; have h9_1 := b_273; unfold bd at h9_1; have h9_2 := b_319; unfold bd at h9_2; have h9_3 := h_349; unfold bd at h9_3; have h9_4 := b_296; unfold bd at h9_4; have h9_5 := h_256; unfold bd at h9_5; have h9_6 := bx_260; unfold bd at h9_6; have h9_7 := h_268; unfold bd at h9_7; have h9_8 := h_291; unfold bd at h9_8; have h9_9 := h_302; unfold bd at h9_9; have h9_10 := b_335; unfold bd at h9_10; have h9_11 := h_351; unfold bd at h9_11; have h9_12 := h_5; unfold bd at h9_12; have h9_13 := b_321; unfold bd at h9_13; have h9_14 := b_345; unfold bd at h9_14; have h8_0 := kb_1; unfold bd at h8_0; have h8_1 := kb_12; unfold bd at h8_1; omega) (by rw [hx_317.2.2.1 0 (by decide)]; exact ho) (by decide) (EV.at_ hv_311 vx_327) (by have h9_0 := bo_; unfold bd at h9_0; have h9_1 := b_273; unfold bd at h9_1; have h9_2 := b_319; unfold bd at h9_2; have h9_3 := h_349; unfold bd at h9_3; have h9_4 := b_296; unfold bd at h9_4; have h9_5 := h_256; unfold bd at h9_5; have h9_6 := bx_260; unfold bd at h9_6; have h9_7 := h_268; unfold bd at h9_7; have h9_8 := h_291; unfold bd at h9_8; have h9_9 := h_302; unfold bd at h9_9; have h9_10 := b_335; unfold bd at h9_10; have h9_11 := h_351; unfold bd at h9_11; have h9_12 := h_5; unfold bd at h9_12; have h9_13 := b_321; unfold bd at h9_13; have h9_14 := b_345; unfold bd at h9_14; have h8_0 := kb_1; unfold bd at h8_0; have h8_1 := kb_12; unfold bd at h8_1; omega)
                  have ho_362 : (V_355.i 47 r_346.toNatClampNeg).toInt = 8 := (congrArg Int32.toInt (hN_357).2.2.2.1).trans (by decide)
                  obtain ⟨V_359, hV_360, hf_361, ho_362⟩ : ∃ V1 : PV, isV fr_346 q0_ V1 ∧ fin V_304 V1 r_346 12 o_ ∧ (V1.i 47 r_346.toNatClampNeg).toInt = 8 := ⟨_, hV_356, hf_358, ho_362⟩
                  have hf_361n := hf_361.2.2.2
                  have hx_363 := exN.tr hx_317 hf_361.1
                  have he_364 := exN.ev hf_361.1 hv_311
                  obtain rfl : op_ = y_320 := Int32.toInt_inj.mp (by have h9_0 := bo_; unfold bd at h9_0; have h9_1 := b_273; unfold bd at h9_1; have h9_2 := b_319; unfold bd at h9_2; have h9_3 := h_349; unfold bd at h9_3; have h9_4 := b_296; unfold bd at h9_4; have h9_5 := h_256; unfold bd at h9_5; have h9_6 := bx_260; unfold bd at h9_6; have h9_7 := h_268; unfold bd at h9_7; have h9_8 := h_291; unfold bd at h9_8; have h9_9 := h_302; unfold bd at h9_9; have h9_10 := b_335; unfold bd at h9_10; have h9_11 := h_351; unfold bd at h9_11; have h9_12 := h_5; unfold bd at h9_12; have h9_13 := b_321; unfold bd at h9_13; have h9_14 := b_345; unfold bd at h9_14; have h8_0 := kb_1; unfold bd at h8_0; have h8_1 := kb_12; unfold bd at h8_1; omega)
                  have h9c : cF fr_346 a0_ = _ := hG_353
                  subst hQ
                  exact iretX (v := r_346) hx hb hr (fun t ht hW => g_retZ g hK ⟨_, rfl, ⟨⟨_, hV_360, hF_354, hx_363, hf_361.2.1, hf_361.2.2.1, trivial, (by omega), (by omega), (by omega)⟩, x_301, h_302, (g.fcts [2, 3] rfl)⟩⟩ ht hW) g.2.2.1.2.2 dX14_readUnary_120 hlocks
        · have hG_365 := cEq.frame hMr_275 go_.2.2.2.1 ma0_ ka0_ (by decide) (by decide) hG_270
          have hG_366 := FR.frame hMr_275 go_.2.2.2.1 mq0_ kq0_ (by decide) (by decide) hG_271
          have hG_367 := isV.frame hMr_275 go_.2.2.2.1 mq0_ kq0_ (by decide) (by decide) hG_272
          obtain rfl : r_275 = 1 := h_277
          have g := g.more hF_280
          have e_368 := fx_same g 4 0 rfl rfl
          have g := g.sub (fx' := [(14, 25, a0_, .int x_267), (14, 8, a0_, .int x_260), (12, 58, q0_, .int x_255), (14, 6, a0_, .int x_4), (14, 2, a0_, .ref q0_), (14, 16, a0_, .int o_), (14, 10, a0_, .int t_)]) [1, 2, 3, 4, 5, 6, 7] rfl
          refine lv_if_eq (tgt := 49) hx hb dX14_readUnary_41 (by decide) (fun c_ => absurd c_ (by decide)) (fun c_ => ?_)
          refine lv_bipush (v := 7) hx hb dX14_readUnary_44 (by decide) ?_
          refine lv_goto (tgt := 51) hx hb dX14_readUnary_46 (by decide) ?_
          refine lv_istore_n (lv' := [(1, .int 7), (0, .ref a0_)]) hx hb dX14_readUnary_51 rfl hl (by decide) rfl (fun ls hl => ?_)
          refine lv_aload_n hx hb dX14_readUnary_52 rfl (lv_at hl 1 rfl) ?_
          refine g_getk (C := RX14) (T := TX14) (N := 67) hx hb hts (mc_ inX14) hown hK g rfl 8 (by decide) rfl (hts _ (List.mem_cons_of_mem _ t_2154)) (fun _ h9 => h9) 1 rfl dX14_readUnary_53 ?_
          refine lv_istore_n (lv' := [(2, .int x_260), (1, .int 7), (0, .ref a0_)]) hx hb dX14_readUnary_56 rfl hl (by decide) rfl (fun ls hl => ?_)
          refine lv_aload_n hx hb dX14_readUnary_57 rfl (lv_at hl 2 rfl) ?_
          have hs_369 := sE_1 g 3 rfl (by have h9_0 := bo_; unfold bd at h9_0; have h9_1 := b_273; unfold bd at h9_1; have h9_2 := bt_; unfold bd at h9_2; have h9_3 := h_256; unfold bd at h9_3; have h9_4 := bx_260; unfold bd at h9_4; have h9_5 := h_268; unfold bd at h9_5; have h9_6 := h_279; unfold bd at h9_6; have h9_7 := h_5; unfold bd at h9_7; omega)
          have go_ := g
          refine g_callEv (As := []) (rest := []) ⟨hx, hb, hml, hown, hts⟩ (r_X14_next_2 l dC dI L kd tys fr_275 H.size g.2.2.2.1 adK adV a0_ ma0_ ka0_ t_ bt_ (g.fcts [6] rfl)) (cwV 0 hts (gV_ t_2411 t_2413 t_102 t_198 t_2414) rfl rfl rfl (by decide +kernel) ⟨(show 6 + 1 ≤ N + 1 + 24 by omega), (show 8 + (1 + 11) + 135 ≤ 60 * (N + 1) + 700 by omega)⟩) (pre3VA g hK hAm ma0_ ka0_ (by decide) (q := (RX14, TX14, 67)) rfl) rfl hl.1 rfl (lv_room (Nat.le_of_ble_eq_true rfl)) dX14_readUnary_58 (cl_f hck_0) g hK (by decide) (by decide) (fx' := [(14, 25, a0_, .int x_267), (12, 58, q0_, .int x_255), (14, 2, a0_, .ref q0_), (14, 16, a0_, .int o_)]) rfl (fun xr_370 fr_370 H locs mxr_370 kxr_370 hp hMr_370 g => ?_) (fun fr_370 H locs hp hMr_370 g => ?_)
          · have hG_371 := FR.frame hMr_370 go_.2.2.2.1 mq0_ kq0_ (by decide) (by decide) hG_366
            have hG_372 := isV.frame hMr_370 go_.2.2.2.1 mq0_ kq0_ (by decide) (by decide) hG_367
            subst hQ
            exact leavesX hempty hlocks (fun t ht hW => g_thrZ g hK mxr_370 kxr_370 ⟨hG_371, (by omega)⟩ ht hW) g.2.2.1.2.2
          · obtain ⟨hx_373, h_374, x_375, h_376, hF_377⟩ := hp
            have hG_378 := FR.frame hMr_370 go_.2.2.2.1 mq0_ kq0_ (by decide) (by decide) hG_366
            have hG_379 := isV.frame hMr_370 go_.2.2.2.1 mq0_ kq0_ (by decide) (by decide) hG_367
            obtain ⟨E_380, hE_380⟩ : ∃ E : Int, cEq fr_370 a0_ E := ⟨_, rfl⟩
            have mxE_380 : E_380 ≤ 1202 := by have h9 := cF_le g ma0_ ka0_; have h8 : cF _ _ = _ := hE_380; omega
            have lE_380 : (cF f0 a0_) + 1 ≤ E_380 := by have h9 := hx_373; have h8 : cF _ _ = _ := hE_380; have h7 : cF _ _ = _ := hG_365; have h6 := hs_369; have h5 := tk_c (f := fr_275) (t := a0_); omega
            have b_381 : bd 0 1200 t_ := eqX rfl bt_ h_374 (by decide)
            have g := g.more hF_377
            refine lv_aload_n hx hb dX14_readUnary_61 rfl (lv_at hl 2 rfl) ?_
            have qc__382 : cF fr_370 a0_ = _ := hE_380
            have go_ := g
            refine g_callZi (As := []) (rest := []) ⟨hx, hb, hml, hown, hts⟩ (ih.2.1 l dC dI L kd tys fr_370 H.size g.2.2.2.1 adK adV a0_ ma0_ ka0_ q0_ mq0_ kq0_ V_ o_ bo_ x_267 (bd_sub h_268 (by decide)) x_375 h_376 hG_379 hwf ho (by omega) (K_ - cl_0) (by omega) (by have h9_0 := bo_; unfold bd at h9_0; have h9_1 := b_273; unfold bd at h9_1; have h9_2 := b_381; unfold bd at h9_2; have h9_3 := h_256; unfold bd at h9_3; have h9_4 := bx_260; unfold bd at h9_4; have h9_5 := h_268; unfold bd at h9_5; have h9_6 := h_279; unfold bd at h9_6; have h9_7 := h_376; unfold bd at h9_7; have h9_8 := h_5; unfold bd at h9_8; omega) (g.fcts [3, 4, 1, 0] rfl)) (cwV 0 hts (gV_ t_2468 t_2470 t_114 t_198 t_2471) rfl rfl rfl (by decide +kernel) ⟨(show N + 24 + 1 ≤ N + 1 + 24 by omega), (show 8 + (4 + 11) + (60 * N + 700) ≤ 60 * (N + 1) + 700 by omega)⟩) (pre3VA g hK hAm ma0_ ka0_ (by decide) (q := (RX14, TX14, 67)) rfl) rfl hl.1 rfl (lv_room (Nat.le_of_ble_eq_true rfl)) dX14_readUnary_62 (cl_k (K := K_) (k := K_ - cl_0) (show cl_0 + (K_ - cl_0) ≤ K_ by omega)) g hK (by decide) (by decide) (fx' := [(14, 2, a0_, .ref q0_), (14, 16, a0_, .int o_)]) rfl (fun xr_383 fr_383 H locs kr_383 cr_383 ecr_383 mxr_383 kxr_383 hp hMr_383 g => ?_) (fun r_383 fr_383 H locs kr_383 cr_383 ecr_383 hp hMr_383 g => ?_)
            · have hF_384 := FR.call (mds := []) (mas := []) hG_378 go_ mq0_ kq0_ rfl hp.1
              have hpk := hp.2
              subst hQ
              exact leavesX hempty hlocks (fun t ht hW => g_thrZ g hK mxr_383 kxr_383 ⟨hF_384, (by omega)⟩ ht hW) g.2.2.1.2.2
            · obtain ⟨hx_385, x_386, h_387, hF_388⟩ := hp
              obtain ⟨V_389, E_390, hV_391, hF_392, hE_393, hX_394, hw_395, hv_396, hP_397, hn_398, hk_399, hc_400⟩ := rd_use hx_385 hE_380
              have hF_401 := FR.call (mds := []) (mas := []) hG_378 go_ mq0_ kq0_ rfl hF_392
              have mxE_390 : E_390 ≤ 1202 := by have h9 := cF_le g ma0_ ka0_; have h8 : cF _ _ = _ := hE_393; omega
              have hx_402 := exN.tr exN.rf hX_394
              have hck_403 : cr_383 ≤ K_ := by omega
              have b_404 : bd 0 2499 r_383 := ⟨hv_396.1, (by have h9 := hv_396.2.1; omega)⟩
              have g := g.more hF_388
              refine lv_istore_n (lv' := [(3, .int r_383), (2, .int x_260), (1, .int 7), (0, .ref a0_)]) hx hb dX14_readUnary_65 rfl hl (by decide) rfl (fun ls hl => ?_)
              refine lv_aload_n hx hb dX14_readUnary_66 rfl (lv_at hl 3 rfl) ?_
              refine lv_dup hx hb dX14_readUnary_67 rfl ?_
              refine g_getk (C := RX14) (T := TX14) (N := 67) hx hb hts (mc_ inX14) hown hK g rfl 25 (by decide) rfl (hts _ (List.mem_cons_of_mem _ t_2171)) (fun _ h9 => h9) 0 rfl dX14_readUnary_68 ?_
              refine lv_iconst (v := 1) hx hb dX14_readUnary_71 (by decide) ?_
              have kb_1 : bd 1 1 (1 : Int32) := ⟨by decide, by decide⟩
              refine lv_isub hx hb dX14_readUnary_72 ?_
              refine lv_topi (fun y_405 ey_405 => ?_)
              have ty_405 := sub_bd ey_405 h_268 kb_1 (by decide)
              have b_406 : bd 0 39 y_405 := sub_rg ty_405 h_268 kb_1 (by decide)
              have go_ := g
              refine g_put (C := RX14) (T := TX14) (N := 67) hx hb hts (mc_ inX14) tyX14 tyX14_ok nmX14 hown hK g ma0_ ka0_ (by decide) rfl 25 (by decide) (hts _ (List.mem_cons_of_mem _ t_2171)) (fun _ h9 => h9) rfl rfl (okV_i (bd_sub b_406 (by decide))) rfl rfl (by decide) (Or.inr (Or.inl (by decide))) (fx' := [(14, 10, a0_, .int x_386), (14, 2, a0_, .ref q0_), (14, 16, a0_, .int o_)]) rfl dX14_readUnary_73 (fun f H locs hM_407 g => ?_)
              have hG_408 := isV.frame hM_407 go_.2.2.2.1 mq0_ kq0_ (by decide) (by decide) hV_391
              have hG_409 := FR.frame hM_407 go_.2.2.2.1 mq0_ kq0_ (by decide) (by decide) hF_401
              have hG_410 := cEq.frame hM_407 go_.2.2.2.1 ma0_ ka0_ (by decide) (by decide) hE_393
              refine lv_aload_n hx hb dX14_readUnary_76 rfl (lv_at hl 3 rfl) ?_
              refine lv_aload_n hx hb dX14_readUnary_77 rfl (lv_at hl 3 rfl) ?_
              refine g_getk (C := RX14) (T := TX14) (N := 67) hx hb hts (mc_ inX14) hown hK g rfl 2 (by decide) rfl (hts _ (List.mem_cons_of_mem _ t_2148)) (fun _ h9 => h9) 2 rfl dX14_readUnary_78 ?_
              refine g_getr (K := 205) (C := RX12) (T := TX12) (N := 60) hx hb hts (mc_ inX12) hown hK g mq0_ kq0_ (by decide) rfl 51 (by decide) rfl (hts _ (List.mem_cons_of_mem _ t_2006)) (fun _ h9 => h9) rfl dX14_readUnary_81 (fun a_411 ma_411 ka_411 g => ?_)
              refine lv_iload_n hx hb dX14_readUnary_84 rfl (lv_at hl 0 rfl) ?_
              refine g_iald hx hb hK g ma_411 ka_411 (by decide) rfl (in_bd b_404 (by decide)) dX14_readUnary_85 (fun x_412 bx_412 cx_412 => ?_)
              have vx_412 : x_412 = V_389.i 51 r_383.toNatClampNeg := hG_408.at g 0 rfl rfl cx_412
              have b_413 : bd 1 12 x_412 := ev_hb hw_395 hv_396 vx_412
              refine lv_bipush (v := 12) hx hb dX14_readUnary_86 (by decide) ?_
              have kb_12 : bd 12 12 (12 : Int32) := ⟨by decide, by decide⟩
              refine lv_icmp_ge (tgt := 95) hx hb dX14_readUnary_88 (by decide) (fun c_414 => ?_) (fun c_414 => ?_)
              · have fc_414 := le_f c_414
                have b_415 : bd 12 12 x_412 := leR fc_414 kb_12 b_413 (by decide)
                refine lv_iconst (v := 0) hx hb dX14_readUnary_95 (by decide) ?_
                refine lv_bipush (v := 7) hx hb dX14_readUnary_96 (by decide) ?_
                refine lv_iload_n hx hb dX14_readUnary_98 rfl (lv_at hl 1 rfl) ?_
                have kb_0 : bd 0 0 (0 : Int32) := ⟨by decide, by decide⟩
                have go_ := g
                refine g_callEv (As := [.int 0, .int 7, .int x_260]) (rest := []) ⟨hx, hb, hml, hown, hts⟩ (r_X14_need_2 l dC dI L kd tys f H.size g.2.2.2.1 a0_ ma0_ ka0_ 0 kb_0 7 x_260) (cwV 3 hts (gV_ t_2403 t_2405 t_100 t_198 t_2406) rfl rfl rfl (by decide +kernel) ⟨(show 1 + 1 ≤ N + 1 + 24 by omega), (show 8 + (4 + 11) + 22 ≤ 60 * (N + 1) + 700 by omega)⟩) (pre3V g hK ma0_ ka0_ (by decide) (q := (RX14, TX14, 67)) rfl) rfl hl.1 rfl (lv_room (Nat.le_of_ble_eq_true rfl)) dX14_readUnary_99 (cl_f hck_403) g hK (by decide) (by decide) (fx' := [(12, 51, q0_, .ref a_411), (14, 25, a0_, .int y_405), (14, 10, a0_, .int x_386), (14, 2, a0_, .ref q0_), (14, 16, a0_, .int o_)]) rfl (fun xr_416 fr_416 H locs mxr_416 kxr_416 hp hMr_416 g => ?_) (fun fr_416 H locs hp hMr_416 g => ?_)
                · have hG_417 := isV.frame hMr_416 go_.2.2.2.1 mq0_ kq0_ (by decide) (by decide) hG_408
                  have hG_418 := FR.frame hMr_416 go_.2.2.2.1 mq0_ kq0_ (by decide) (by decide) hG_409
                  have hG_419 := cEq.frame hMr_416 go_.2.2.2.1 ma0_ ka0_ (by decide) (by decide) hG_410
                  subst hQ
                  exact leavesX hempty hlocks (fun t ht hW => g_thrZ g hK mxr_416 kxr_416 ⟨hG_418, (by omega)⟩ ht hW) g.2.2.1.2.2
                · exact hp.elim
              · have fc_414 := nle_f c_414
                have b_420 : bd 1 11 x_412 := ltL fc_414 b_413 kb_12 (by decide)
                refine lv_iconst (v := 1) hx hb dX14_readUnary_91 (by decide) ?_
                refine lv_goto (tgt := 96) hx hb dX14_readUnary_92 (by decide) ?_
                refine lv_bipush (v := 7) hx hb dX14_readUnary_96 (by decide) ?_
                refine lv_iload_n hx hb dX14_readUnary_98 rfl (lv_at hl 1 rfl) ?_
                have go_ := g
                refine g_callEv (As := [.int 1, .int 7, .int x_260]) (rest := []) ⟨hx, hb, hml, hown, hts⟩ (r_X14_need_3 l dC dI L kd tys f H.size g.2.2.2.1 a0_ ma0_ ka0_ 1 kb_1 7 x_260) (cwV 3 hts (gV_ t_2403 t_2405 t_100 t_198 t_2406) rfl rfl rfl (by decide +kernel) ⟨(show 0 + 1 ≤ N + 1 + 24 by omega), (show 8 + (4 + 11) + 0 ≤ 60 * (N + 1) + 700 by omega)⟩) (pre3V g hK ma0_ ka0_ (by decide) (q := (RX14, TX14, 67)) rfl) rfl hl.1 rfl (lv_room (Nat.le_of_ble_eq_true rfl)) dX14_readUnary_99 (cl_f hck_403) g hK (by decide) (by decide) (fx' := [(12, 51, q0_, .ref a_411), (14, 25, a0_, .int y_405), (14, 10, a0_, .int x_386), (14, 2, a0_, .ref q0_), (14, 16, a0_, .int o_)]) rfl (fun xr_421 fr_421 H locs mxr_421 kxr_421 hp hMr_421 g => ?_) (fun fr_421 H locs hp hMr_421 g => ?_)
                · have hG_422 := isV.frame hMr_421 go_.2.2.2.1 mq0_ kq0_ (by decide) (by decide) hG_408
                  have hG_423 := FR.frame hMr_421 go_.2.2.2.1 mq0_ kq0_ (by decide) (by decide) hG_409
                  have hG_424 := cEq.frame hMr_421 go_.2.2.2.1 ma0_ ka0_ (by decide) (by decide) hG_410
                  exact hp.elim
                · have hG_425 := isV.frame hMr_421 go_.2.2.2.1 mq0_ kq0_ (by decide) (by decide) hG_408
                  have hG_426 := FR.frame hMr_421 go_.2.2.2.1 mq0_ kq0_ (by decide) (by decide) hG_409
                  have hG_427 := cEq.frame hMr_421 go_.2.2.2.1 ma0_ ka0_ (by decide) (by decide) hG_410
                  refine lv_aload_n hx hb dX14_readUnary_102 rfl (lv_at hl 3 rfl) ?_
                  refine lv_iload_n hx hb dX14_readUnary_103 rfl (lv_at hl 2 rfl) ?_
                  refine lv_iload_n hx hb dX14_readUnary_104 rfl (lv_at hl 0 rfl) ?_
                  refine lv_iconst (v := (-1)) hx hb dX14_readUnary_105 (by decide) ?_
                  refine lv_iconst (v := 1) hx hb dX14_readUnary_106 (by decide) ?_
                  refine lv_aload_n hx hb dX14_readUnary_107 rfl (lv_at hl 3 rfl) ?_
                  refine g_getk (C := RX14) (T := TX14) (N := 67) hx hb hts (mc_ inX14) hown hK g rfl 2 (by decide) rfl (hts _ (List.mem_cons_of_mem _ t_2148)) (fun _ h9 => h9) 3 rfl dX14_readUnary_108 ?_
                  refine g_getk (C := RX12) (T := TX12) (N := 60) hx hb hts (mc_ inX12) hown hK g rfl 51 (by decide) rfl (hts _ (List.mem_cons_of_mem _ t_2006)) (fun _ h9 => h9) 0 rfl dX14_readUnary_111 ?_
                  refine lv_iload_n hx hb dX14_readUnary_114 rfl (lv_at hl 0 rfl) ?_
                  refine g_iald hx hb hK g ma_411 ka_411 (by decide) rfl (in_bd b_404 (by decide)) dX14_readUnary_115 (fun x_428 bx_428 cx_428 => ?_)
                  obtain rfl : x_412 = x_428 := el_same cx_412 cx_428 (arr_eq hMr_421 ma_411 ka_411 (by decide) rfl)
                  refine lv_iadd hx hb dX14_readUnary_116 ?_
                  refine lv_topi (fun y_429 ey_429 => ?_)
                  have ty_429 := add_bd ey_429 kb_1 b_420 (by decide)
                  have b_430 : bd 2 12 y_429 := add_rg ty_429 kb_1 b_420 (by decide)
                  have hnb : (V_389.n 57).toInt ≤ 2499 := by omega
                  have go_ := g
                  refine g_calli (va_runV (As := [.int 7, .int r_383, .int (-1), .int y_429]) (rest := []) ⟨hx, hb, hml, hown, hts⟩ (r_X14_node l dC dI L kd tys fr_421 H.size g.2.2.2.1 a0_ ma0_ ka0_ 7 r_383 (-1) y_429 q0_ mq0_ kq0_ o_ bo_ V_389 hG_425 hnb (g.fcts [3, 4] rfl)) (cwV 4 hts (gV_ t_2480 t_2482 t_117 t_198 t_2483) rfl rfl rfl (by decide +kernel) ⟨(show 0 + 1 ≤ N + 1 + 24 by omega), (show 8 + (6 + 11) + 0 ≤ 60 * (N + 1) + 700 by omega)⟩) (pre3V g hK ma0_ ka0_ (by decide) (q := (RX14, TX14, 67)) rfl) rfl rfl hl.1 rfl (lv_room (Nat.le_of_ble_eq_true rfl)) dX14_readUnary_117 (cl_f hck_403)) g hK (by decide) (by decide) (fx' := [(12, 51, q0_, .ref a_411), (14, 25, a0_, .int y_405), (14, 10, a0_, .int x_386), (14, 2, a0_, .ref q0_), (14, 16, a0_, .int o_)]) rfl (fun r_431 fr_431 H locs hp hMr_431 g => ?_)
                  obtain ⟨hx_432, hx_433, h_434, x_435, h_436, hF_437⟩ := hp
                  have hG_438 := cEq.frame hMr_431 go_.2.2.2.1 ma0_ ka0_ (by decide) (by decide) hG_427
                  have hF_439 := FR.call (mds := []) (mas := []) hG_426 go_ mq0_ kq0_ rfl hx_433
                  obtain ⟨V_440, hV_441, hN_442⟩ := hx_432
                  have g := g.more hF_437
                  have hf_443 : fin V_389 V_440 r_431 12 o_ := nd_un hN_442 h_434.1 hw_395 ⟨(by have h9_0 := bo_; unfold bd at h9_0; have h9_1 := b_273; unfold bd at h9_1; have h9_2 := b_404; unfold bd at h9_2; have h9_3 := h_434; unfold bd at h9_3; have h9_4 := b_381; unfold bd at h9_4; have h9_5 := h_256; unfold bd at h9_5; have h9_6 := bx_260; unfold bd at h9_6; have h9_7 := h_268; unfold bd at h9_7; have h9_8 := h_279; unfold bd at h9_8; have h9_9 := h_376; unfold bd at h9_9; have h9_10 := h_387; unfold bd at h9_10; have h9_11 := h_5; unfold bd at h9_11; have h9_12 := b_420; unfold bd at h9_12; have h9_13 := h_436; unfold bd at h9_13; have h9_14 := b_406; unfold bd at h9_14; have h9_15 := b_430; unfold bd at h9_15; have h8_0 := kb_1; unfold bd at h8_0; have h8_1 := kb_12; unfold bd at h8_1; omega), (by have h9_0 := bo_; unfold bd at h9_0; have h9_1 := b_273; unfold bd at h9_1; have h9_2 := b_404; unfold bd at h9_2; have h9_3 := h_434; unfold bd at h9_3; have h9_4 := b_381; unfold bd at h9_4; have h9_5 := h_256; unfold bd at h9_5; have h9_6 := bx_260; unfold bd at h9_6; have h9_7 := h_268; unfold bd at h9_7; have h9_8 := h_279; unfold bd at h9_8; have h9_9 := h_376; unfold bd at h9_9; have h9_10 := h_387; unfold bd at h9_10; have h9_11 := h_5; unfold bd at h9_11; have h9_12 := b_420; unfold bd at h9_12; have h9_13 := h_436; unfold bd at h9_13; have h9_14 := b_406; unfold bd at h9_14; have h9_15 := b_430; unfold bd at h9_15; have h8_0 := kb_1; unfold bd at h8_0; have h8_1 := kb_12; unfold bd at h8_1; omega)⟩ (by have h9_0 := bo_; unfold bd at h9_0; have h9_1 := b_273; unfold bd at h9_1; have h9_2 := b_404; unfold bd at h9_2; have h9_3 := h_434; unfold bd at h9_3; have h9_4 := b_381; unfold bd at h9_4; have h9_5 := h_256; unfold bd at h9_5; have h9_6 := bx_260; unfold bd at h9_6; have h9_7 := h_268; unfold bd at h9_7; have h9_8 := h_279; unfold bd at h9_8; have h9_9 := h_376; unfold bd at h9_9; have h9_10 := h_387; unfold bd at h9_10; have h9_11 := h_5; unfold bd at h9_11; have h9_12 := b_420; unfold bd at h9_12; have h9_13 := h_436; unfold bd at h9_13; have h9_14 := b_406; unfold bd at h9_14; have h9_15 := b_430; unfold bd at h9_15; have h8_0 := kb_1; unfold bd at h8_0; have h8_1 := kb_12; unfold bd at h8_1; omega) (by rw [hx_402.2.2.1 0 (by decide)]; exact ho) (by decide) (EV.at_ hv_396 vx_412) (by have h9_0 := bo_; unfold bd at h9_0; have h9_1 := b_273; unfold bd at h9_1; have h9_2 := b_404; unfold bd at h9_2; have h9_3 := h_434; unfold bd at h9_3; have h9_4 := b_381; unfold bd at h9_4; have h9_5 := h_256; unfold bd at h9_5; have h9_6 := bx_260; unfold bd at h9_6; have h9_7 := h_268; unfold bd at h9_7; have h9_8 := h_279; unfold bd at h9_8; have h9_9 := h_376; unfold bd at h9_9; have h9_10 := h_387; unfold bd at h9_10; have h9_11 := h_5; unfold bd at h9_11; have h9_12 := b_420; unfold bd at h9_12; have h9_13 := h_436; unfold bd at h9_13; have h9_14 := b_406; unfold bd at h9_14; have h9_15 := b_430; unfold bd at h9_15; have h8_0 := kb_1; unfold bd at h8_0; have h8_1 := kb_12; unfold bd at h8_1; omega)
                  have ho_447 : (V_440.i 47 r_431.toNatClampNeg).toInt = 7 := (congrArg Int32.toInt (hN_442).2.2.2.1).trans (by decide)
                  obtain ⟨V_444, hV_445, hf_446, ho_447⟩ : ∃ V1 : PV, isV fr_431 q0_ V1 ∧ fin V_389 V1 r_431 12 o_ ∧ (V1.i 47 r_431.toNatClampNeg).toInt = 7 := ⟨_, hV_441, hf_443, ho_447⟩
                  have hf_446n := hf_446.2.2.2
                  have hx_448 := exN.tr hx_402 hf_446.1
                  have he_449 := exN.ev hf_446.1 hv_396
                  obtain rfl : op_ = y_405 := Int32.toInt_inj.mp (by have h9_0 := bo_; unfold bd at h9_0; have h9_1 := b_273; unfold bd at h9_1; have h9_2 := b_404; unfold bd at h9_2; have h9_3 := h_434; unfold bd at h9_3; have h9_4 := b_381; unfold bd at h9_4; have h9_5 := h_256; unfold bd at h9_5; have h9_6 := bx_260; unfold bd at h9_6; have h9_7 := h_268; unfold bd at h9_7; have h9_8 := h_279; unfold bd at h9_8; have h9_9 := h_376; unfold bd at h9_9; have h9_10 := h_387; unfold bd at h9_10; have h9_11 := h_5; unfold bd at h9_11; have h9_12 := b_420; unfold bd at h9_12; have h9_13 := h_436; unfold bd at h9_13; have h9_14 := b_406; unfold bd at h9_14; have h9_15 := b_430; unfold bd at h9_15; have h8_0 := kb_1; unfold bd at h8_0; have h8_1 := kb_12; unfold bd at h8_1; omega)
                  have h9c : cF fr_431 a0_ = _ := hG_438
                  subst hQ
                  exact iretX (v := r_431) hx hb hr (fun t ht hW => g_retZ g hK ⟨_, rfl, ⟨⟨_, hV_445, hF_439, hx_448, hf_446.2.1, hf_446.2.2.1, trivial, (by omega), (by omega), (by omega)⟩, x_386, h_387, (g.fcts [2, 3] rfl)⟩⟩ ht hW) g.2.2.1.2.2 dX14_readUnary_120 hlocks
