set_option maxHeartbeats 4000000 in
set_option maxRecDepth 100000 in
theorem r_X14_readName (N : Nat) (ih : RecR N) (l : Launch) (dC : Nat → ClassId) (dI : Nat → Nat → Nat) (L : List Nat) (kd : Nat → Nat) (tys : List (ClassId × FieldType)) (f0 : Nat → va_E) (sz : Nat) (hWT : WT L kd tys f0) (adK adV : Nat → Nat) (a0_ : Nat) (ma0_ : a0_ ∈ L) (ka0_ : kd a0_ = 14) (x1_ : Int32) (bx1_ : bd 0 1 x1_) (x2_ : Int32) (bx2_ : bd 0 1 x2_) (q0_ : Nat) (mq0_ : q0_ ∈ L) (kq0_ : kd q0_ = 12) (V_ : PV) (o_ : Int32) (bo_ : bd 0 7 o_) (op_ : Int32) (bop_ : bd 0 40 op_) (t_ : Int32) (bt_ : bd 0 1201 t_) (so_ : Int32) (bso_ : bd 1 4 so_) (hV : isV f0 q0_ V_) (hwf : wfN V_ (V_.n 57).toInt) (ho : (o_.toNatClampNeg : Int) < (V_.n 0).toInt) (hnn : (V_.n 57).toInt ≤ cF f0 a0_) (hm_ : Int) (hhm : 12 ≤ hm_ ∧ hm_ ≤ 13 ∧ (x1_.toInt = 0 → hm_ = 13)) (K_ : Nat) (hK_ : 1204 ≤ 2 * (K_ : Int) + cF f0 a0_) (hN : 11 * (40 - op_.toInt) + 2 ≤ ((N + 1 : Nat) : Int)) (hfx : Fs L kd f0 [(14, 2, a0_, .ref q0_), (14, 16, a0_, .int o_), (14, 25, a0_, .int op_), (14, 10, a0_, .int t_), (14, 6, a0_, .int so_)]) : MetX l yX14_readName (.code yX14_readName cX14_readName 11 (some .int) :: lw_g) ({ frames := (N + 1) + 24, cells := K_, slots := 3 * K_, locals := 60 * (N + 1) + 700 }) (va_Pc [.ref a0_, .int x1_, .int x2_] (P3A (dC, dI) L tys f0 sz adK adV)) (q3X (dC, dI) L kd tys [(12, 57), (12, 58), (14, 6), (14, 7), (14, 8), (14, 9), (14, 10), (14, 11), (14, 12), (14, 13), (14, 14), (14, 15), (14, 25)] [180, 201, 202, 203, 204, 205, 206, 207, 208, 209, 210] f0 sz (pXi (fun (r : Int32) (f : Nat → va_E) (k : Nat) => (rdP L kd f0 a0_ q0_ V_ o_ (hm_) 0 r f k (fun v => (v.toInt = 2 ∨ v.toInt = 3) ∧ (x2_.toInt = 1 → v.toInt = 2))) ∧ ∃ z1_ : Int32, bd 0 1201 z1_ ∧ Fs L kd f [(14, 25, a0_, .int op_), (14, 10, a0_, .int z1_)])) (fun k : Nat => 2 * (k : Int) + cF f0 a0_ ≤ 1203)) (pA L sz) := by
  refine MetX.ofW (cc := cX14_readName) (maxL := 11) (ret := (some .int)) (by decide) rfl ?_
  intro p e s m args below meth c s₁ B hml hempty hv
  obtain ⟨rfl, ⟨hsz, hP, hK, hD0⟩, hAm⟩ := hv
  have hx := B.exec
  have hb := B.bytes
  have hr := B.returns
  have hts := atoms_spec (ws := (.code yX14_readName cX14_readName 11 (some .int) :: lw_g)) B.pre
  have hown : s.vm.findClass RX14 = some m.cls := findClass_of_methodNamed B.named
  have hlocks := B.notSynchronized
  subst hsz
  have g : G3 (dC, dI) L kd tys s f0 [(12, 57), (12, 58), (14, 6), (14, 7), (14, 8), (14, 9), (14, 10), (14, 11), (14, 12), (14, 13), (14, 14), (14, 15), (14, 25)] [180, 201, 202, 203, 204, 205, 206, 207, 208, 209, 210] f0 s.heap [] [(14, 2, a0_, .ref q0_), (14, 16, a0_, .int o_), (14, 25, a0_, .int op_), (14, 10, a0_, .int t_), (14, 6, a0_, .int so_)] := G3.start hP hD0 hWT hfx
  have hl := lv_entry ([.ref a0_, .int x1_, .int x2_]) (n := 11) (Nat.le_of_ble_eq_true rfl)
  rw [lg_entry_eq]
  generalize (lg_sl ([.ref a0_, .int x1_, .int x2_]) ++ List.replicate (11 - (lg_sl ([.ref a0_, .int x1_, .int x2_])).length) Slot.unset).toArray = ls at hl ⊢
  have hl : lv_has ls 11 [(0, .ref a0_), (1, .int x1_), (2, .int x2_)] := hl
  refine W_q (fun Q hQ => ?_)
  refine W_c0 (fun cl_0 hc_0 => ?_)
  have hck_0 : cl_0 ≤ K_ := by omega
  have hC_0 : cEq f0 a0_ (cF f0 a0_) := rfl
  have hm_0 : cF f0 a0_ ≤ 1202 := cF_le g ma0_ ka0_
  have hm_1 : -1 ≤ cF f0 a0_ := cF_ge g ma0_ ka0_
  obtain ⟨N_, hNN_1⟩ := isN.ex g ma0_ ka0_
  refine lv_aload_n hx hb dX14_readName_0 rfl (lv_at hl 0 rfl) ?_
  refine g_geti (C := RX14) (T := TX14) (N := 67) hx hb hts (mc_ inX14) hown hK g ma0_ ka0_ (by decide) rfl 8 (by decide) rfl (hts _ (List.mem_cons_of_mem _ t_2154)) (fun _ h9 => h9) rfl dX14_readName_1 (fun x_2 bx_2 g => ?_)
  refine lv_istore_n (lv' := [(3, .int x_2), (0, .ref a0_), (1, .int x1_), (2, .int x2_)]) hx hb dX14_readName_4 rfl hl (by decide) rfl (fun ls hl => ?_)
  refine lv_aload_n hx hb dX14_readName_5 rfl (lv_at hl 1 rfl) ?_
  refine g_getl (C := RX14) (T := TX14) (N := 67) hx hb hts (mc_ inX14) hown hK g ma0_ ka0_ (by decide) rfl 12 (by decide) rfl (hts _ (List.mem_cons_of_mem _ t_2158)) (fun _ h9 => h9) rfl dX14_readName_6 (fun x_3 g => ?_)
  refine lv_lstore (lv' := [(4, .long x_3), (3, .int x_2), (0, .ref a0_), (1, .int x1_), (2, .int x2_)]) hx hb dX14_readName_9 hl (by decide) rfl (fun ls hl => ?_)
  refine lv_aload_n hx hb dX14_readName_11 rfl (lv_at hl 2 rfl) ?_
  refine g_getl (C := RX14) (T := TX14) (N := 67) hx hb hts (mc_ inX14) hown hK g ma0_ ka0_ (by decide) rfl 13 (by decide) rfl (hts _ (List.mem_cons_of_mem _ t_2159)) (fun _ h9 => h9) rfl dX14_readName_12 (fun x_4 g => ?_)
  refine lv_lstore (lv' := [(6, .long x_4), (4, .long x_3), (3, .int x_2), (0, .ref a0_), (1, .int x1_), (2, .int x2_)]) hx hb dX14_readName_15 hl (by decide) rfl (fun ls hl => ?_)
  refine lv_aload_n hx hb dX14_readName_17 rfl (lv_at hl 3 rfl) ?_
  refine g_getk (C := RX14) (T := TX14) (N := 67) hx hb hts (mc_ inX14) hown hK g rfl 10 (by decide) rfl (hts _ (List.mem_cons_of_mem _ t_2156)) (fun _ h9 => h9) 6 rfl dX14_readName_18 ?_
  refine lv_istore (lv' := [(8, .int t_), (6, .long x_4), (4, .long x_3), (3, .int x_2), (0, .ref a0_), (1, .int x1_), (2, .int x2_)]) hx hb dX14_readName_21 hl (by decide) rfl (fun ls hl => ?_)
  refine lv_aload_n hx hb dX14_readName_23 rfl (lv_at hl 4 rfl) ?_
  have hs_5 := sE_1 g 7 rfl (by have h9_0 := bo_; unfold bd at h9_0; have h9_1 := bop_; unfold bd at h9_1; have h9_2 := bso_; unfold bd at h9_2; have h9_3 := bt_; unfold bd at h9_3; have h9_4 := bx1_; unfold bd at h9_4; have h9_5 := bx2_; unfold bd at h9_5; have h9_6 := bx_2; unfold bd at h9_6; omega)
  have go_ := g
  refine g_callv (va_runV (As := []) (rest := []) ⟨hx, hb, hml, hown, hts⟩ (r_X14_scan_3 l dC dI L kd tys f0 s.heap.size g.2.2.2.1 adK adV a0_ ma0_ ka0_ t_ bt_ so_ bso_ (g.fcts [6, 7] rfl)) (cwV 0 hts (gV_ t_2360 t_2362 t_92 t_198 t_2363) rfl rfl rfl (by decide +kernel) ⟨(show 5 + 1 ≤ N + 1 + 24 by omega), (show 8 + (4 + 11) + 112 ≤ 60 * (N + 1) + 700 by omega)⟩) (pre3VA g hK hAm ma0_ ka0_ (by decide) (q := (RX14, TX14, 67)) rfl) rfl rfl hl.1 rfl (lv_room (Nat.le_of_ble_eq_true rfl)) dX14_readName_24 (cl_f hck_0)) g hK (by decide) (by decide) (fx' := [(14, 2, a0_, .ref q0_), (14, 16, a0_, .int o_), (14, 25, a0_, .int op_)]) rfl (fun fr_6 H locs hp hMr_6 g => ?_)
  obtain ⟨hx_7, x_8, ⟨h_9, rh_9⟩, hF_10⟩ := hp
  have hG_11 := isV.frame hMr_6 go_.2.2.2.1 mq0_ kq0_ (by decide) (by decide) hV
  have hG_12 := FR.frame hMr_6 go_.2.2.2.1 mq0_ kq0_ (by decide) (by decide) FR.refl
  have hG_13 := isN.frame hMr_6 go_.2.2.2.1 ma0_ ka0_ (by decide) (by decide) hNN_1
  obtain ⟨E_14, hE_14⟩ : ∃ E : Int, cEq fr_6 a0_ E := ⟨_, rfl⟩
  have mxE_14 : E_14 ≤ 1202 := by have h9 := cF_le g ma0_ ka0_; have h8 : cF _ _ = _ := hE_14; omega
  have lE_14 : (cF f0 a0_) + 1 ≤ E_14 := by have h9 := hx_7; have h8 : cF _ _ = _ := hE_14; have h7 : cF _ _ = _ := hC_0; have h6 := hs_5; have h5 := tk_c (f := f0) (t := a0_); omega
  have g := g.more hF_10
  refine lv_aload_n hx hb dX14_readName_27 rfl (lv_at hl 4 rfl) ?_
  refine lv_bipush (v := 40) hx hb dX14_readName_28 (by decide) ?_
  have go_ := g
  refine g_calli (va_runV (As := [.int 40]) (rest := []) ⟨hx, hb, hml, hown, hts⟩ (r_X14_isSign l dC dI L kd tys fr_6 H.size g.2.2.2.1 a0_ ma0_ ka0_ 40) (cwV 1 hts (gV_ t_2435 t_2437 t_108 t_198 t_2438) rfl rfl rfl (by decide +kernel) ⟨(show 0 + 1 ≤ N + 1 + 24 by omega), (show 8 + (2 + 11) + 0 ≤ 60 * (N + 1) + 700 by omega)⟩) (pre3V g hK ma0_ ka0_ (by decide) (q := (RX14, TX14, 67)) rfl) rfl rfl hl.1 rfl (lv_room (Nat.le_of_ble_eq_true rfl)) dX14_readName_30 (cl_f hck_0)) g hK (by decide) (by decide) (fx' := [(14, 10, a0_, .int x_8), (14, 2, a0_, .ref q0_), (14, 16, a0_, .int o_), (14, 25, a0_, .int op_)]) rfl (fun r_15 fr_15 H locs hp hMr_15 g => ?_)
  rcases hp with ⟨h_16, -⟩ | ⟨h_17, x_18, h_19, hF_20⟩
  · have hG_21 := isV.frame hMr_15 go_.2.2.2.1 mq0_ kq0_ (by decide) (by decide) hG_11
    have hG_22 := FR.frame hMr_15 go_.2.2.2.1 mq0_ kq0_ (by decide) (by decide) hG_12
    have hG_23 := isN.frame hMr_15 go_.2.2.2.1 ma0_ ka0_ (by decide) (by decide) hG_13
    have hG_24 := cEq.frame hMr_15 go_.2.2.2.1 ma0_ ka0_ (by decide) (by decide) hE_14
    obtain rfl : r_15 = 0 := h_16
    refine lv_if_eq (tgt := 44) hx hb dX14_readName_33 (by decide) (fun c_ => ?_) (fun c_ => absurd (by decide) c_)
    refine lv_iconst (v := 0) hx hb dX14_readName_44 (by decide) ?_
    refine lv_istore (lv' := [(9, .int 0), (8, .int t_), (6, .long x_4), (4, .long x_3), (3, .int x_2), (0, .ref a0_), (1, .int x1_), (2, .int x2_)]) hx hb dX14_readName_45 hl (by decide) rfl (fun ls hl => ?_)
    have join_25 : ∀ (f : Nat → va_E) (H : Heap) (locs : List Loc) (ls : Array Slot), G3 (dC, dI) L kd tys s f0 [(12, 57), (12, 58), (14, 6), (14, 7), (14, 8), (14, 9), (14, 10), (14, 11), (14, 12), (14, 13), (14, 14), (14, 15), (14, 25)] [180, 201, 202, 203, 204, 205, 206, 207, 208, 209, 210] f H locs [(14, 10, a0_, .int x_8), (14, 2, a0_, .ref q0_), (14, 16, a0_, .int o_), (14, 25, a0_, .int op_)] → isV f q0_ V_ → FR L kd f0 f q0_ → isN f a0_ N_ → cEq f a0_ E_14 → (nmd N_ V_ o_.toNatClampNeg x_3 x_4) → lv_has ls 11 [(9, .int 0), (8, .int t_), (6, .long x_4), (4, .long x_3), (3, .int x_2), (0, .ref a0_), (1, .int x1_), (2, .int x2_)] → W p l e ({ frames := (N + 1) + 24, cells := K_, slots := 3 * K_, locals := 60 * (N + 1) + 700 } : Room) s m [.ref a0_, .int x1_, .int x2_].toArray below meth c H locs cl_0 (3 * cl_0) Q (F0 m 93 ls []) := by
      intro  f H locs ls  g hJ93_V_q0_ hJ93_F_q0_ hJ93_N_a0_ hJ93_C_a0_ hd93 hl
      refine lv_aload_n hx hb dX14_readName_93 rfl (lv_at hl 5 rfl) ?_
      refine lv_iload_n hx hb dX14_readName_94 rfl (lv_at hl 6 rfl) ?_
      have kb_0 : bd 0 0 (0 : Int32) := ⟨by decide, by decide⟩
      refine lv_if_eq (tgt := 119) hx hb dX14_readName_95 (by decide) (fun c_26 => ?_) (fun c_26 => ?_)
      · have fc_26 := eq_f c_26
        have b_27 : bd 0 0 x1_ := eqX fc_26 bx1_ kb_0 (by decide)
        refine lv_aload_n hx hb dX14_readName_119 rfl (lv_at hl 5 rfl) ?_
        refine g_getk (C := RX14) (T := TX14) (N := 67) hx hb hts (mc_ inX14) hown hK g rfl 2 (by decide) rfl (hts _ (List.mem_cons_of_mem _ t_2148)) (fun _ h9 => h9) 1 rfl dX14_readName_120 ?_
        refine g_getr (K := 180) (C := RX12) (T := TX12) (N := 60) hx hb hts (mc_ inX12) hown hK g mq0_ kq0_ (by decide) rfl 24 (by decide) rfl (hts _ (List.mem_cons_of_mem _ t_1954)) (fun _ h9 => h9) rfl dX14_readName_123 (fun a_28 ma_28 ka_28 g => ?_)
        refine lv_aload_n hx hb dX14_readName_126 rfl (lv_at hl 5 rfl) ?_
        refine g_geti (C := RX14) (T := TX14) (N := 67) hx hb hts (mc_ inX14) hown hK g ma0_ ka0_ (by decide) rfl 17 (by decide) rfl (hts _ (List.mem_cons_of_mem _ t_2163)) (fun _ h9 => h9) rfl dX14_readName_127 (fun x_29 bx_29 g => ?_)
        refine g_iald hx hb hK g ma_28 ka_28 (by decide) rfl (in_bd bx_29 (by decide)) dX14_readName_130 (fun x_30 bx_30 cx_30 => ?_)
        have vx_30 : x_30 = V_.i 24 x_29.toNatClampNeg := hJ93_V_q0_.at g 1 rfl rfl cx_30
        refine lv_bipush (v := 40) hx hb dX14_readName_131 (by decide) ?_
        have kb_40 : bd 40 40 (40 : Int32) := ⟨by decide, by decide⟩
        refine lv_icmp_ge (tgt := 140) hx hb dX14_readName_133 (by decide) (fun c_31 => ?_) (fun c_31 => ?_)
        · have fc_31 := le_f c_31
          have b_32 : bd 40 40 x_30 := leR fc_31 kb_40 bx_30 (by decide)
          refine lv_iconst (v := 0) hx hb dX14_readName_140 (by decide) ?_
          refine lv_iconst (v := 4) hx hb dX14_readName_141 (by decide) ?_
          refine lv_iload_n hx hb dX14_readName_142 rfl (lv_at hl 4 rfl) ?_
          have go_ := g
          refine g_callEv (As := [.int 0, .int 4, .int x_2]) (rest := []) ⟨hx, hb, hml, hown, hts⟩ (r_X14_need_2 l dC dI L kd tys f H.size g.2.2.2.1 a0_ ma0_ ka0_ 0 kb_0 4 x_2) (cwV 3 hts (gV_ t_2403 t_2405 t_100 t_198 t_2406) rfl rfl rfl (by decide +kernel) ⟨(show 1 + 1 ≤ N + 1 + 24 by omega), (show 8 + (4 + 11) + 22 ≤ 60 * (N + 1) + 700 by omega)⟩) (pre3V g hK ma0_ ka0_ (by decide) (q := (RX14, TX14, 67)) rfl) rfl hl.1 rfl (lv_room (Nat.le_of_ble_eq_true rfl)) dX14_readName_143 (cl_f hck_0) g hK (by decide) (by decide) (fx' := [(14, 17, a0_, .int x_29), (12, 24, q0_, .ref a_28), (14, 10, a0_, .int x_8), (14, 2, a0_, .ref q0_), (14, 16, a0_, .int o_), (14, 25, a0_, .int op_)]) rfl (fun xr_33 fr_33 H locs mxr_33 kxr_33 hp hMr_33 g => ?_) (fun fr_33 H locs hp hMr_33 g => ?_)
          · have hG_34 := isV.frame hMr_33 go_.2.2.2.1 mq0_ kq0_ (by decide) (by decide) hJ93_V_q0_
            have hG_35 := FR.frame hMr_33 go_.2.2.2.1 mq0_ kq0_ (by decide) (by decide) hJ93_F_q0_
            have hG_36 := isN.frame hMr_33 go_.2.2.2.1 ma0_ ka0_ (by decide) (by decide) hJ93_N_a0_
            have hG_37 := cEq.frame hMr_33 go_.2.2.2.1 ma0_ ka0_ (by decide) (by decide) hJ93_C_a0_
            subst hQ
            exact leavesX hempty hlocks (fun t ht hW => g_thrX g hK mxr_33 kxr_33 (by omega) ht hW) g.2.2.1.2.2
          · exact hp.elim
        · have fc_31 := nle_f c_31
          have b_38 : bd 0 39 x_30 := ltL fc_31 bx_30 kb_40 (by decide)
          refine lv_iconst (v := 1) hx hb dX14_readName_136 (by decide) ?_
          refine lv_goto (tgt := 141) hx hb dX14_readName_137 (by decide) ?_
          refine lv_iconst (v := 4) hx hb dX14_readName_141 (by decide) ?_
          refine lv_iload_n hx hb dX14_readName_142 rfl (lv_at hl 4 rfl) ?_
          have kb_1 : bd 1 1 (1 : Int32) := ⟨by decide, by decide⟩
          have go_ := g
          refine g_callEv (As := [.int 1, .int 4, .int x_2]) (rest := []) ⟨hx, hb, hml, hown, hts⟩ (r_X14_need_3 l dC dI L kd tys f H.size g.2.2.2.1 a0_ ma0_ ka0_ 1 kb_1 4 x_2) (cwV 3 hts (gV_ t_2403 t_2405 t_100 t_198 t_2406) rfl rfl rfl (by decide +kernel) ⟨(show 0 + 1 ≤ N + 1 + 24 by omega), (show 8 + (4 + 11) + 0 ≤ 60 * (N + 1) + 700 by omega)⟩) (pre3V g hK ma0_ ka0_ (by decide) (q := (RX14, TX14, 67)) rfl) rfl hl.1 rfl (lv_room (Nat.le_of_ble_eq_true rfl)) dX14_readName_143 (cl_f hck_0) g hK (by decide) (by decide) (fx' := [(14, 17, a0_, .int x_29), (12, 24, q0_, .ref a_28), (14, 10, a0_, .int x_8), (14, 2, a0_, .ref q0_), (14, 16, a0_, .int o_), (14, 25, a0_, .int op_)]) rfl (fun xr_39 fr_39 H locs mxr_39 kxr_39 hp hMr_39 g => ?_) (fun fr_39 H locs hp hMr_39 g => ?_)
          · have hG_40 := isV.frame hMr_39 go_.2.2.2.1 mq0_ kq0_ (by decide) (by decide) hJ93_V_q0_
            have hG_41 := FR.frame hMr_39 go_.2.2.2.1 mq0_ kq0_ (by decide) (by decide) hJ93_F_q0_
            have hG_42 := isN.frame hMr_39 go_.2.2.2.1 ma0_ ka0_ (by decide) (by decide) hJ93_N_a0_
            have hG_43 := cEq.frame hMr_39 go_.2.2.2.1 ma0_ ka0_ (by decide) (by decide) hJ93_C_a0_
            exact hp.elim
          · have hG_44 := isV.frame hMr_39 go_.2.2.2.1 mq0_ kq0_ (by decide) (by decide) hJ93_V_q0_
            have hG_45 := FR.frame hMr_39 go_.2.2.2.1 mq0_ kq0_ (by decide) (by decide) hJ93_F_q0_
            have hG_46 := isN.frame hMr_39 go_.2.2.2.1 ma0_ ka0_ (by decide) (by decide) hJ93_N_a0_
            have hG_47 := cEq.frame hMr_39 go_.2.2.2.1 ma0_ ka0_ (by decide) (by decide) hJ93_C_a0_
            refine lv_aload_n hx hb dX14_readName_146 rfl (lv_at hl 5 rfl) ?_
            refine lv_iload hx hb dX14_readName_147 (lv_at hl 1 rfl) ?_
            refine lv_sipush (v := 1200) hx hb dX14_readName_149 (by decide) ?_
            have kb_1200 : bd 1200 1200 (1200 : Int32) := ⟨by decide, by decide⟩
            refine lv_icmp_gt (tgt := 159) hx hb dX14_readName_152 (by decide) (fun c_48 => ?_) (fun c_48 => ?_)
            · have fc_48 := lt_f c_48
              have b_49 : bd 1201 1201 t_ := ltR fc_48 kb_1200 bt_ (by decide)
              refine lv_iconst (v := 0) hx hb dX14_readName_159 (by decide) ?_
              refine lv_iconst (v := 4) hx hb dX14_readName_160 (by decide) ?_
              refine lv_iload_n hx hb dX14_readName_161 rfl (lv_at hl 4 rfl) ?_
              have go_ := g
              refine g_callEv (As := [.int 0, .int 4, .int x_2]) (rest := []) ⟨hx, hb, hml, hown, hts⟩ (r_X14_need_2 l dC dI L kd tys fr_39 H.size g.2.2.2.1 a0_ ma0_ ka0_ 0 kb_0 4 x_2) (cwV 3 hts (gV_ t_2403 t_2405 t_100 t_198 t_2406) rfl rfl rfl (by decide +kernel) ⟨(show 1 + 1 ≤ N + 1 + 24 by omega), (show 8 + (4 + 11) + 22 ≤ 60 * (N + 1) + 700 by omega)⟩) (pre3V g hK ma0_ ka0_ (by decide) (q := (RX14, TX14, 67)) rfl) rfl hl.1 rfl (lv_room (Nat.le_of_ble_eq_true rfl)) dX14_readName_162 (cl_f hck_0) g hK (by decide) (by decide) (fx' := [(14, 17, a0_, .int x_29), (12, 24, q0_, .ref a_28), (14, 10, a0_, .int x_8), (14, 2, a0_, .ref q0_), (14, 16, a0_, .int o_), (14, 25, a0_, .int op_)]) rfl (fun xr_50 fr_50 H locs mxr_50 kxr_50 hp hMr_50 g => ?_) (fun fr_50 H locs hp hMr_50 g => ?_)
              · have hG_51 := isV.frame hMr_50 go_.2.2.2.1 mq0_ kq0_ (by decide) (by decide) hG_44
                have hG_52 := FR.frame hMr_50 go_.2.2.2.1 mq0_ kq0_ (by decide) (by decide) hG_45
                have hG_53 := isN.frame hMr_50 go_.2.2.2.1 ma0_ ka0_ (by decide) (by decide) hG_46
                have hG_54 := cEq.frame hMr_50 go_.2.2.2.1 ma0_ ka0_ (by decide) (by decide) hG_47
                subst hQ
                exact leavesX hempty hlocks (fun t ht hW => g_thrX g hK mxr_50 kxr_50 (by omega) ht hW) g.2.2.1.2.2
              · exact hp.elim
            · have fc_48 := nlt_f c_48
              have b_55 : bd 0 1200 t_ := leL fc_48 bt_ kb_1200 (by decide)
              refine lv_iconst (v := 1) hx hb dX14_readName_155 (by decide) ?_
              refine lv_goto (tgt := 160) hx hb dX14_readName_156 (by decide) ?_
              refine lv_iconst (v := 4) hx hb dX14_readName_160 (by decide) ?_
              refine lv_iload_n hx hb dX14_readName_161 rfl (lv_at hl 4 rfl) ?_
              have go_ := g
              refine g_callEv (As := [.int 1, .int 4, .int x_2]) (rest := []) ⟨hx, hb, hml, hown, hts⟩ (r_X14_need_3 l dC dI L kd tys fr_39 H.size g.2.2.2.1 a0_ ma0_ ka0_ 1 kb_1 4 x_2) (cwV 3 hts (gV_ t_2403 t_2405 t_100 t_198 t_2406) rfl rfl rfl (by decide +kernel) ⟨(show 0 + 1 ≤ N + 1 + 24 by omega), (show 8 + (4 + 11) + 0 ≤ 60 * (N + 1) + 700 by omega)⟩) (pre3V g hK ma0_ ka0_ (by decide) (q := (RX14, TX14, 67)) rfl) rfl hl.1 rfl (lv_room (Nat.le_of_ble_eq_true rfl)) dX14_readName_162 (cl_f hck_0) g hK (by decide) (by decide) (fx' := [(14, 17, a0_, .int x_29), (12, 24, q0_, .ref a_28), (14, 10, a0_, .int x_8), (14, 2, a0_, .ref q0_), (14, 16, a0_, .int o_), (14, 25, a0_, .int op_)]) rfl (fun xr_56 fr_56 H locs mxr_56 kxr_56 hp hMr_56 g => ?_) (fun fr_56 H locs hp hMr_56 g => ?_)
              · have hG_57 := isV.frame hMr_56 go_.2.2.2.1 mq0_ kq0_ (by decide) (by decide) hG_44
                have hG_58 := FR.frame hMr_56 go_.2.2.2.1 mq0_ kq0_ (by decide) (by decide) hG_45
                have hG_59 := isN.frame hMr_56 go_.2.2.2.1 ma0_ ka0_ (by decide) (by decide) hG_46
                have hG_60 := cEq.frame hMr_56 go_.2.2.2.1 ma0_ ka0_ (by decide) (by decide) hG_47
                exact hp.elim
              · have hG_61 := isV.frame hMr_56 go_.2.2.2.1 mq0_ kq0_ (by decide) (by decide) hG_44
                have hG_62 := FR.frame hMr_56 go_.2.2.2.1 mq0_ kq0_ (by decide) (by decide) hG_45
                have hG_63 := isN.frame hMr_56 go_.2.2.2.1 ma0_ ka0_ (by decide) (by decide) hG_46
                have hG_64 := cEq.frame hMr_56 go_.2.2.2.1 ma0_ ka0_ (by decide) (by decide) hG_47
                refine lv_iload_n hx hb dX14_readName_165 rfl (lv_at hl 6 rfl) ?_
                refine lv_if_eq (tgt := 185) hx hb dX14_readName_166 (by decide) (fun c_65 => ?_) (fun c_65 => ?_)
                · have fc_65 := eq_f c_65
                  refine lv_aload_n hx hb dX14_readName_185 rfl (lv_at hl 5 rfl) ?_
                  refine g_getk (C := RX14) (T := TX14) (N := 67) hx hb hts (mc_ inX14) hown hK g rfl 2 (by decide) rfl (hts _ (List.mem_cons_of_mem _ t_2148)) (fun _ h9 => h9) 3 rfl dX14_readName_186 ?_
                  refine g_getk (C := RX12) (T := TX12) (N := 60) hx hb hts (mc_ inX12) hown hK g rfl 24 (by decide) rfl (hts _ (List.mem_cons_of_mem _ t_1954)) (fun _ h9 => h9) 1 rfl dX14_readName_189 ?_
                  refine lv_aload_n hx hb dX14_readName_192 rfl (lv_at hl 5 rfl) ?_
                  refine g_getk (C := RX14) (T := TX14) (N := 67) hx hb hts (mc_ inX14) hown hK g rfl 17 (by decide) rfl (hts _ (List.mem_cons_of_mem _ t_2163)) (fun _ h9 => h9) 0 rfl dX14_readName_193 ?_
                  refine lv_dup2_11 hx hb dX14_readName_196 rfl rfl ?_
                  refine g_iald hx hb hK g ma_28 ka_28 (by decide) rfl (in_bd bx_29 (by decide)) dX14_readName_197 (fun x_66 bx_66 cx_66 => ?_)
                  obtain rfl : x_30 = x_66 := el_same cx_30 cx_66 ((arr_eq hMr_56 ma_28 ka_28 (by decide) rfl).trans (arr_eq hMr_39 ma_28 ka_28 (by decide) rfl))
                  refine lv_iconst (v := 1) hx hb dX14_readName_198 (by decide) ?_
                  refine lv_iadd hx hb dX14_readName_199 ?_
                  refine lv_topi (fun y_67 ey_67 => ?_)
                  have ty_67 := add_bd ey_67 b_38 kb_1 (by decide)
                  have b_68 : bd 1 40 y_67 := add_rg ty_67 b_38 kb_1 (by decide)
                  have gp_69 := g
                  have go_ := g
                  refine g_iastX hx hb hK g ma_28 ka_28 (by decide) rfl (in_bd bx_29 (by decide)) (bd_sub b_68 (by decide)) (by decide) dX14_readName_200 (fun f H locs hM_70 u_73 g => ?_)
                  have hG_71 := isN.frame hM_70 go_.2.2.2.1 ma0_ ka0_ (by decide) (by decide) hG_63
                  have hG_72 := cEq.frame hM_70 go_.2.2.2.1 ma0_ ka0_ (by decide) (by decide) hG_64
                  have hV_74 := isV.ui hG_61 gp_69 1 rfl mq0_ kq0_ rfl u_73
                  have hF_75 := FR.arr hG_62 gp_69 1 rfl mq0_ kq0_ rfl rfl u_73.1
                  obtain ⟨V_76, hV_77, hX_78, hw_79, hn_80⟩ : ∃ V1 : PV, isV f q0_ V1 ∧ exN V_ V1 ∧ wfN V1 (V1.n 57).toInt ∧ (V1.n 57).toInt = (V_.n 57).toInt := ⟨_, hV_74, u24_ok hwf⟩
                  have hx_81 := exN.tr exN.rf hX_78
                  have hd_82 := nmd_ex hX_78 hd93
                  refine lv_iload hx hb dX14_readName_201 (lv_at hl 0 rfl) ?_
                  refine lv_if_eq (tgt := 275) hx hb dX14_readName_203 (by decide) (fun c_ => ?_) (fun c_ => absurd (by decide) c_)
                  refine lv_aload_n hx hb dX14_readName_275 rfl (lv_at hl 5 rfl) ?_
                  refine lv_lload hx hb dX14_readName_276 (lv_at hl 3 rfl) ?_
                  refine lv_lload hx hb dX14_readName_278 (lv_at hl 2 rfl) ?_
                  have go_ := g
                  refine g_calli (va_runV (As := [.long x_3, .long x_4]) (rest := []) ⟨hx, hb, hml, hown, hts⟩ (r_X14_named_2 l dC dI L kd tys f H.size g.2.2.2.1 a0_ ma0_ ka0_ x_3 x_4 q0_ mq0_ kq0_ o_ bo_ V_76 N_ hG_71 hV_77 (g.fcts [3, 4] rfl)) (cwV 2 hts (gV_ t_2504 t_2506 t_122 t_198 t_2507) rfl rfl rfl (by decide +kernel) ⟨(show 1 + 1 ≤ N + 1 + 24 by omega), (show 8 + (6 + 11) + 26 ≤ 60 * (N + 1) + 700 by omega)⟩) (pre3V g hK ma0_ ka0_ (by decide) (q := (RX14, TX14, 67)) rfl) rfl rfl hl.1 rfl (lv_room (Nat.le_of_ble_eq_true rfl)) dX14_readName_280 (cl_f hck_0)) g hK (by decide) (by decide) (fx' := [(14, 17, a0_, .int x_29), (12, 24, q0_, .ref a_28), (14, 10, a0_, .int x_8), (14, 2, a0_, .ref q0_), (14, 16, a0_, .int o_), (14, 25, a0_, .int op_)]) rfl (fun r_83 fr_83 H locs hp hMr_83 g => ?_)
                  obtain ⟨hx_84, -⟩ := hp
                  have hG_85 := isN.frame hMr_83 go_.2.2.2.1 ma0_ ka0_ (by decide) (by decide) hG_71
                  have hG_86 := cEq.frame hMr_83 go_.2.2.2.1 ma0_ ka0_ (by decide) (by decide) hG_72
                  have hG_87 := isV.frame hMr_83 go_.2.2.2.1 mq0_ kq0_ (by decide) (by decide) hV_77
                  have hG_88 := FR.frame hMr_83 go_.2.2.2.1 mq0_ kq0_ (by decide) (by decide) hF_75
                  rcases hx_84 with ⟨h_89, hd_90⟩ | ⟨h_89 | h_89 | h_89, hd_90⟩
                  · obtain rfl : r_83 = (-1) := Int32.toInt_inj.mp (h_89.trans (by decide))
                    exact absurd hd_82 hd_90
                  · have b_91 : bd 0 9 r_83 := ⟨h_89.1, h_89.2.1⟩
                    have hv_92 : varOK V_76 r_83 o_.toNatClampNeg := Or.inl h_89
                    refine lv_istore (lv' := [(10, .int r_83), (9, .int 0), (8, .int t_), (6, .long x_4), (4, .long x_3), (3, .int x_2), (0, .ref a0_), (1, .int x1_), (2, .int x2_)]) hx hb dX14_readName_283 hl (by decide) rfl (fun ls hl => ?_)
                    refine lv_aload_n hx hb dX14_readName_285 rfl (lv_at hl 6 rfl) ?_
                    refine lv_iload_n hx hb dX14_readName_286 rfl (lv_at hl 8 rfl) ?_
                    refine lv_if_eq (tgt := 298) hx hb dX14_readName_287 (by decide) (fun c_93 => ?_) (fun c_93 => ?_)
                    · have fc_93 := eq_f c_93
                      have b_94 : bd 0 0 x2_ := eqX fc_93 bx2_ kb_0 (by decide)
                      refine lv_iconst (v := 1) hx hb dX14_readName_298 (by decide) ?_
                      refine lv_goto (tgt := 303) hx hb dX14_readName_299 (by decide) ?_
                      refine lv_iconst (v := 5) hx hb dX14_readName_303 (by decide) ?_
                      refine lv_iload_n hx hb dX14_readName_304 rfl (lv_at hl 5 rfl) ?_
                      have go_ := g
                      refine g_callEv (As := [.int 1, .int 5, .int x_2]) (rest := []) ⟨hx, hb, hml, hown, hts⟩ (r_X14_need_3 l dC dI L kd tys fr_83 H.size g.2.2.2.1 a0_ ma0_ ka0_ 1 kb_1 5 x_2) (cwV 3 hts (gV_ t_2403 t_2405 t_100 t_198 t_2406) rfl rfl rfl (by decide +kernel) ⟨(show 0 + 1 ≤ N + 1 + 24 by omega), (show 8 + (4 + 11) + 0 ≤ 60 * (N + 1) + 700 by omega)⟩) (pre3V g hK ma0_ ka0_ (by decide) (q := (RX14, TX14, 67)) rfl) rfl hl.1 rfl (lv_room (Nat.le_of_ble_eq_true rfl)) dX14_readName_305 (cl_f hck_0) g hK (by decide) (by decide) (fx' := [(14, 17, a0_, .int x_29), (12, 24, q0_, .ref a_28), (14, 10, a0_, .int x_8), (14, 2, a0_, .ref q0_), (14, 16, a0_, .int o_), (14, 25, a0_, .int op_)]) rfl (fun xr_95 fr_95 H locs mxr_95 kxr_95 hp hMr_95 g => ?_) (fun fr_95 H locs hp hMr_95 g => ?_)
                      · have hG_96 := isN.frame hMr_95 go_.2.2.2.1 ma0_ ka0_ (by decide) (by decide) hG_85
                        have hG_97 := cEq.frame hMr_95 go_.2.2.2.1 ma0_ ka0_ (by decide) (by decide) hG_86
                        have hG_98 := isV.frame hMr_95 go_.2.2.2.1 mq0_ kq0_ (by decide) (by decide) hG_87
                        have hG_99 := FR.frame hMr_95 go_.2.2.2.1 mq0_ kq0_ (by decide) (by decide) hG_88
                        exact hp.elim
                      · have hG_100 := isN.frame hMr_95 go_.2.2.2.1 ma0_ ka0_ (by decide) (by decide) hG_85
                        have hG_101 := cEq.frame hMr_95 go_.2.2.2.1 ma0_ ka0_ (by decide) (by decide) hG_86
                        have hG_102 := isV.frame hMr_95 go_.2.2.2.1 mq0_ kq0_ (by decide) (by decide) hG_87
                        have hG_103 := FR.frame hMr_95 go_.2.2.2.1 mq0_ kq0_ (by decide) (by decide) hG_88
                        refine lv_aload_n hx hb dX14_readName_308 rfl (lv_at hl 6 rfl) ?_
                        refine lv_iload hx hb dX14_readName_309 (lv_at hl 0 rfl) ?_
                        refine lv_iload_n hx hb dX14_readName_311 rfl (lv_at hl 5 rfl) ?_
                        refine lv_iload_n hx hb dX14_readName_312 rfl (lv_at hl 7 rfl) ?_
                        have qc__104 : cF fr_95 a0_ = _ := hG_101
                        have b_105 : bd 0 1201 x_8 := ⟨(by have h9_0 := bo_; unfold bd at h9_0; have h9_1 := bop_; unfold bd at h9_1; have h9_2 := b_91; unfold bd at h9_2; have h9_3 := bso_; unfold bd at h9_3; have h9_4 := b_55; unfold bd at h9_4; have h9_5 := b_27; unfold bd at h9_5; have h9_6 := b_94; unfold bd at h9_6; have h9_7 := bx_2; unfold bd at h9_7; have h9_8 := bx_29; unfold bd at h9_8; have h9_9 := b_38; unfold bd at h9_9; have h9_10 := bx_66; unfold bd at h9_10; have h9_11 := h_9; unfold bd at h9_11; have h9_12 := b_68; unfold bd at h9_12; have h8_0 := kb_0; unfold bd at h8_0; have h8_1 := kb_1; unfold bd at h8_1; have h8_2 := kb_1200; unfold bd at h8_2; have h8_3 := kb_40; unfold bd at h8_3; omega), (by have h9_0 := bo_; unfold bd at h9_0; have h9_1 := bop_; unfold bd at h9_1; have h9_2 := b_91; unfold bd at h9_2; have h9_3 := bso_; unfold bd at h9_3; have h9_4 := b_55; unfold bd at h9_4; have h9_5 := b_27; unfold bd at h9_5; have h9_6 := b_94; unfold bd at h9_6; have h9_7 := bx_2; unfold bd at h9_7; have h9_8 := bx_29; unfold bd at h9_8; have h9_9 := b_38; unfold bd at h9_9; have h9_10 := bx_66; unfold bd at h9_10; have h9_11 := h_9; unfold bd at h9_11; have h9_12 := b_68; unfold bd at h9_12; have h8_0 := kb_0; unfold bd at h8_0; have h8_1 := kb_1; unfold bd at h8_1; have h8_2 := kb_1200; unfold bd at h8_2; have h8_3 := kb_40; unfold bd at h8_3; omega)⟩
                        have go_ := g
                        refine g_callXi (As := [.int r_83, .int x_2, .int x1_]) (rest := []) ⟨hx, hb, hml, hown, hts⟩ (ih.2.2.2.2.2.1 l dC dI L kd tys fr_95 H.size g.2.2.2.1 adK adV a0_ ma0_ ka0_ r_83 x_2 x1_ (bd_sub b_27 (by decide)) q0_ mq0_ kq0_ V_76 o_ bo_ op_ bop_ x_8 b_105 hG_102 hw_79 (by rw [hx_81.2.2.1 0 (by decide)]; exact ho) (by omega) hm_ hhm hv_92 (K_ - cl_0) (by omega) (by have h9_0 := bo_; unfold bd at h9_0; have h9_1 := bop_; unfold bd at h9_1; have h9_2 := b_91; unfold bd at h9_2; have h9_3 := bso_; unfold bd at h9_3; have h9_4 := b_55; unfold bd at h9_4; have h9_5 := b_27; unfold bd at h9_5; have h9_6 := b_94; unfold bd at h9_6; have h9_7 := bx_2; unfold bd at h9_7; have h9_8 := bx_29; unfold bd at h9_8; have h9_9 := b_38; unfold bd at h9_9; have h9_10 := bx_66; unfold bd at h9_10; have h9_11 := b_105; unfold bd at h9_11; have h9_12 := b_68; unfold bd at h9_12; have h8_0 := kb_0; unfold bd at h8_0; have h8_1 := kb_1; unfold bd at h8_1; have h8_2 := kb_1200; unfold bd at h8_2; have h8_3 := kb_40; unfold bd at h8_3; omega) (g.fcts [3, 4, 5, 2] rfl)) (cwV 3 hts (gV_ t_2512 t_2514 t_124 t_198 t_2515) rfl rfl rfl (by decide +kernel) ⟨(show N + 24 + 1 ≤ N + 1 + 24 by omega), (show 8 + (8 + 11) + (60 * N + 700) ≤ 60 * (N + 1) + 700 by omega)⟩) (pre3VA g hK hAm ma0_ ka0_ (by decide) (q := (RX14, TX14, 67)) rfl) rfl hl.1 rfl (lv_room (Nat.le_of_ble_eq_true rfl)) dX14_readName_313 (cl_k (K := K_) (k := K_ - cl_0) (show cl_0 + (K_ - cl_0) ≤ K_ by omega)) g hK (by decide) (by decide) (fx' := [(14, 17, a0_, .int x_29), (12, 24, q0_, .ref a_28), (14, 2, a0_, .ref q0_), (14, 16, a0_, .int o_)]) rfl (fun xr_106 fr_106 H locs kr_106 cr_106 ecr_106 mxr_106 kxr_106 hp hMr_106 g => ?_) (fun r_106 fr_106 H locs kr_106 cr_106 ecr_106 hp hMr_106 g => ?_)
                        · have hG_107 := isN.frame hMr_106 go_.2.2.2.1 ma0_ ka0_ (by decide) (by decide) hG_100
                          subst hQ
                          exact leavesX hempty hlocks (fun t ht hW => g_thrX g hK mxr_106 kxr_106 (by omega) ht hW) g.2.2.1.2.2
                        · obtain ⟨hx_108, x_109, h_110, hF_111⟩ := hp
                          have hG_112 := isN.frame hMr_106 go_.2.2.2.1 ma0_ ka0_ (by decide) (by decide) hG_100
                          obtain ⟨V_113, E_114, hV_115, hF_116, hE_117, hX_118, hw_119, hv_120, hP_121, hn_122, hk_123, hc_124⟩ := rd_use hx_108 hG_101
                          have hF_125 := FR.call (mds := []) (mas := []) hG_103 go_ mq0_ kq0_ rfl hF_116
                          have mxE_114 : E_114 ≤ 1202 := by have h9 := cF_le g ma0_ ka0_; have h8 : cF _ _ = _ := hE_117; omega
                          have hx_126 := exN.tr hx_81 hX_118
                          have hv_127 := exN.var hX_118 hv_92
                          have hd_128 := nmd_ex hX_118 hd_90
                          have hck_129 : cr_106 ≤ K_ := by omega
                          have b_130 : bd 0 2499 r_106 := ⟨hv_120.1, (by have h9 := hv_120.2.1; omega)⟩
                          have g := g.more hF_111
                          have h9c : cF fr_106 a0_ = _ := hE_117
                          subst hQ
                          exact iretX (v := r_106) hx hb hr (fun t ht hW => g_retX g hK ⟨_, rfl, ⟨⟨_, hV_115, hF_125, hx_126, hw_119, hv_120, ⟨Or.inl hP_121, fun _ => hP_121⟩, (by omega), (by omega), (by omega)⟩, x_109, h_110, (g.fcts [0, 1] rfl)⟩⟩ ht hW) g.2.2.1.2.2 dX14_readName_316 hlocks
                    · have fc_93 := neq_f c_93
                      have b_131 : bd 1 1 x2_ := neX fc_93 bx2_ kb_0 (by decide)
                      refine lv_iload hx hb dX14_readName_290 (lv_at hl 0 rfl) ?_
                      refine lv_sipush (v := 1000) hx hb dX14_readName_292 (by decide) ?_
                      have kb_1000 : bd 1000 1000 (1000 : Int32) := ⟨by decide, by decide⟩
                      refine lv_icmp_ge (tgt := 302) hx hb dX14_readName_295 (by decide) (fun c_132 => ?_) (fun c_132 => ?_)
                      · have fc_132 := le_f c_132
                        have b_133 : bd 1000 9 (1000 : Int32) := leL fc_132 kb_1000 b_91 (by decide)
                        exact bd_no (eqX rfl b_133 kb_1000 (lo := 1000) (hi := 9) (by decide)) (by decide)
                      · have fc_132 := nle_f c_132
                        refine lv_iconst (v := 1) hx hb dX14_readName_298 (by decide) ?_
                        refine lv_goto (tgt := 303) hx hb dX14_readName_299 (by decide) ?_
                        refine lv_iconst (v := 5) hx hb dX14_readName_303 (by decide) ?_
                        refine lv_iload_n hx hb dX14_readName_304 rfl (lv_at hl 5 rfl) ?_
                        have go_ := g
                        refine g_callEv (As := [.int 1, .int 5, .int x_2]) (rest := []) ⟨hx, hb, hml, hown, hts⟩ (r_X14_need_3 l dC dI L kd tys fr_83 H.size g.2.2.2.1 a0_ ma0_ ka0_ 1 kb_1 5 x_2) (cwV 3 hts (gV_ t_2403 t_2405 t_100 t_198 t_2406) rfl rfl rfl (by decide +kernel) ⟨(show 0 + 1 ≤ N + 1 + 24 by omega), (show 8 + (4 + 11) + 0 ≤ 60 * (N + 1) + 700 by omega)⟩) (pre3V g hK ma0_ ka0_ (by decide) (q := (RX14, TX14, 67)) rfl) rfl hl.1 rfl (lv_room (Nat.le_of_ble_eq_true rfl)) dX14_readName_305 (cl_f hck_0) g hK (by decide) (by decide) (fx' := [(14, 17, a0_, .int x_29), (12, 24, q0_, .ref a_28), (14, 10, a0_, .int x_8), (14, 2, a0_, .ref q0_), (14, 16, a0_, .int o_), (14, 25, a0_, .int op_)]) rfl (fun xr_134 fr_134 H locs mxr_134 kxr_134 hp hMr_134 g => ?_) (fun fr_134 H locs hp hMr_134 g => ?_)
                        · have hG_135 := isN.frame hMr_134 go_.2.2.2.1 ma0_ ka0_ (by decide) (by decide) hG_85
                          have hG_136 := cEq.frame hMr_134 go_.2.2.2.1 ma0_ ka0_ (by decide) (by decide) hG_86
                          have hG_137 := isV.frame hMr_134 go_.2.2.2.1 mq0_ kq0_ (by decide) (by decide) hG_87
                          have hG_138 := FR.frame hMr_134 go_.2.2.2.1 mq0_ kq0_ (by decide) (by decide) hG_88
                          exact hp.elim
                        · have hG_139 := isN.frame hMr_134 go_.2.2.2.1 ma0_ ka0_ (by decide) (by decide) hG_85
                          have hG_140 := cEq.frame hMr_134 go_.2.2.2.1 ma0_ ka0_ (by decide) (by decide) hG_86
                          have hG_141 := isV.frame hMr_134 go_.2.2.2.1 mq0_ kq0_ (by decide) (by decide) hG_87
                          have hG_142 := FR.frame hMr_134 go_.2.2.2.1 mq0_ kq0_ (by decide) (by decide) hG_88
                          refine lv_aload_n hx hb dX14_readName_308 rfl (lv_at hl 6 rfl) ?_
                          refine lv_iload hx hb dX14_readName_309 (lv_at hl 0 rfl) ?_
                          refine lv_iload_n hx hb dX14_readName_311 rfl (lv_at hl 5 rfl) ?_
                          refine lv_iload_n hx hb dX14_readName_312 rfl (lv_at hl 7 rfl) ?_
                          have qc__143 : cF fr_134 a0_ = _ := hG_140
                          have b_144 : bd 0 1201 x_8 := ⟨(by have h9_0 := bo_; unfold bd at h9_0; have h9_1 := bop_; unfold bd at h9_1; have h9_2 := b_91; unfold bd at h9_2; have h9_3 := bso_; unfold bd at h9_3; have h9_4 := b_55; unfold bd at h9_4; have h9_5 := b_27; unfold bd at h9_5; have h9_6 := b_131; unfold bd at h9_6; have h9_7 := bx_2; unfold bd at h9_7; have h9_8 := bx_29; unfold bd at h9_8; have h9_9 := b_38; unfold bd at h9_9; have h9_10 := bx_66; unfold bd at h9_10; have h9_11 := h_9; unfold bd at h9_11; have h9_12 := b_68; unfold bd at h9_12; have h8_0 := kb_0; unfold bd at h8_0; have h8_1 := kb_1; unfold bd at h8_1; have h8_2 := kb_1000; unfold bd at h8_2; have h8_3 := kb_1200; unfold bd at h8_3; have h8_4 := kb_40; unfold bd at h8_4; omega), (by have h9_0 := bo_; unfold bd at h9_0; have h9_1 := bop_; unfold bd at h9_1; have h9_2 := b_91; unfold bd at h9_2; have h9_3 := bso_; unfold bd at h9_3; have h9_4 := b_55; unfold bd at h9_4; have h9_5 := b_27; unfold bd at h9_5; have h9_6 := b_131; unfold bd at h9_6; have h9_7 := bx_2; unfold bd at h9_7; have h9_8 := bx_29; unfold bd at h9_8; have h9_9 := b_38; unfold bd at h9_9; have h9_10 := bx_66; unfold bd at h9_10; have h9_11 := h_9; unfold bd at h9_11; have h9_12 := b_68; unfold bd at h9_12; have h8_0 := kb_0; unfold bd at h8_0; have h8_1 := kb_1; unfold bd at h8_1; have h8_2 := kb_1000; unfold bd at h8_2; have h8_3 := kb_1200; unfold bd at h8_3; have h8_4 := kb_40; unfold bd at h8_4; omega)⟩
                          have go_ := g
                          refine g_callXi (As := [.int r_83, .int x_2, .int x1_]) (rest := []) ⟨hx, hb, hml, hown, hts⟩ (ih.2.2.2.2.2.1 l dC dI L kd tys fr_134 H.size g.2.2.2.1 adK adV a0_ ma0_ ka0_ r_83 x_2 x1_ (bd_sub b_27 (by decide)) q0_ mq0_ kq0_ V_76 o_ bo_ op_ bop_ x_8 b_144 hG_141 hw_79 (by rw [hx_81.2.2.1 0 (by decide)]; exact ho) (by omega) hm_ hhm hv_92 (K_ - cl_0) (by omega) (by have h9_0 := bo_; unfold bd at h9_0; have h9_1 := bop_; unfold bd at h9_1; have h9_2 := b_91; unfold bd at h9_2; have h9_3 := bso_; unfold bd at h9_3; have h9_4 := b_55; unfold bd at h9_4; have h9_5 := b_27; unfold bd at h9_5; have h9_6 := b_131; unfold bd at h9_6; have h9_7 := bx_2; unfold bd at h9_7; have h9_8 := bx_29; unfold bd at h9_8; have h9_9 := b_38; unfold bd at h9_9; have h9_10 := bx_66; unfold bd at h9_10; have h9_11 := b_144; unfold bd at h9_11; have h9_12 := b_68; unfold bd at h9_12; have h8_0 := kb_0; unfold bd at h8_0; have h8_1 := kb_1; unfold bd at h8_1; have h8_2 := kb_1000; unfold bd at h8_2; have h8_3 := kb_1200; unfold bd at h8_3; have h8_4 := kb_40; unfold bd at h8_4; omega) (g.fcts [3, 4, 5, 2] rfl)) (cwV 3 hts (gV_ t_2512 t_2514 t_124 t_198 t_2515) rfl rfl rfl (by decide +kernel) ⟨(show N + 24 + 1 ≤ N + 1 + 24 by omega), (show 8 + (8 + 11) + (60 * N + 700) ≤ 60 * (N + 1) + 700 by omega)⟩) (pre3VA g hK hAm ma0_ ka0_ (by decide) (q := (RX14, TX14, 67)) rfl) rfl hl.1 rfl (lv_room (Nat.le_of_ble_eq_true rfl)) dX14_readName_313 (cl_k (K := K_) (k := K_ - cl_0) (show cl_0 + (K_ - cl_0) ≤ K_ by omega)) g hK (by decide) (by decide) (fx' := [(14, 17, a0_, .int x_29), (12, 24, q0_, .ref a_28), (14, 2, a0_, .ref q0_), (14, 16, a0_, .int o_)]) rfl (fun xr_145 fr_145 H locs kr_145 cr_145 ecr_145 mxr_145 kxr_145 hp hMr_145 g => ?_) (fun r_145 fr_145 H locs kr_145 cr_145 ecr_145 hp hMr_145 g => ?_)
                          · have hG_146 := isN.frame hMr_145 go_.2.2.2.1 ma0_ ka0_ (by decide) (by decide) hG_139
                            subst hQ
                            exact leavesX hempty hlocks (fun t ht hW => g_thrX g hK mxr_145 kxr_145 (by omega) ht hW) g.2.2.1.2.2
                          · obtain ⟨hx_147, x_148, h_149, hF_150⟩ := hp
                            have hG_151 := isN.frame hMr_145 go_.2.2.2.1 ma0_ ka0_ (by decide) (by decide) hG_139
                            obtain ⟨V_152, E_153, hV_154, hF_155, hE_156, hX_157, hw_158, hv_159, hP_160, hn_161, hk_162, hc_163⟩ := rd_use hx_147 hG_140
                            have hF_164 := FR.call (mds := []) (mas := []) hG_142 go_ mq0_ kq0_ rfl hF_155
                            have mxE_153 : E_153 ≤ 1202 := by have h9 := cF_le g ma0_ ka0_; have h8 : cF _ _ = _ := hE_156; omega
                            have hx_165 := exN.tr hx_81 hX_157
                            have hv_166 := exN.var hX_157 hv_92
                            have hd_167 := nmd_ex hX_157 hd_90
                            have hck_168 : cr_145 ≤ K_ := by omega
                            have b_169 : bd 0 2499 r_145 := ⟨hv_159.1, (by have h9 := hv_159.2.1; omega)⟩
                            have g := g.more hF_150
                            have h9c : cF fr_145 a0_ = _ := hE_156
                            subst hQ
                            exact iretX (v := r_145) hx hb hr (fun t ht hW => g_retX g hK ⟨_, rfl, ⟨⟨_, hV_154, hF_164, hx_165, hw_158, hv_159, ⟨Or.inl hP_160, fun _ => hP_160⟩, (by omega), (by omega), (by omega)⟩, x_148, h_149, (g.fcts [0, 1] rfl)⟩⟩ ht hW) g.2.2.1.2.2 dX14_readName_316 hlocks
                  · have b_170 : bd 1000 1002 r_83 := ⟨h_89.1, h_89.2⟩
                    have hv_171 : varOK V_76 r_83 o_.toNatClampNeg := Or.inr (Or.inl h_89)
                    refine lv_istore (lv' := [(10, .int r_83), (9, .int 0), (8, .int t_), (6, .long x_4), (4, .long x_3), (3, .int x_2), (0, .ref a0_), (1, .int x1_), (2, .int x2_)]) hx hb dX14_readName_283 hl (by decide) rfl (fun ls hl => ?_)
                    refine lv_aload_n hx hb dX14_readName_285 rfl (lv_at hl 6 rfl) ?_
                    refine lv_iload_n hx hb dX14_readName_286 rfl (lv_at hl 8 rfl) ?_
                    refine lv_if_eq (tgt := 298) hx hb dX14_readName_287 (by decide) (fun c_172 => ?_) (fun c_172 => ?_)
                    · have fc_172 := eq_f c_172
                      have b_173 : bd 0 0 x2_ := eqX fc_172 bx2_ kb_0 (by decide)
                      refine lv_iconst (v := 1) hx hb dX14_readName_298 (by decide) ?_
                      refine lv_goto (tgt := 303) hx hb dX14_readName_299 (by decide) ?_
                      refine lv_iconst (v := 5) hx hb dX14_readName_303 (by decide) ?_
                      refine lv_iload_n hx hb dX14_readName_304 rfl (lv_at hl 5 rfl) ?_
                      have go_ := g
                      refine g_callEv (As := [.int 1, .int 5, .int x_2]) (rest := []) ⟨hx, hb, hml, hown, hts⟩ (r_X14_need_3 l dC dI L kd tys fr_83 H.size g.2.2.2.1 a0_ ma0_ ka0_ 1 kb_1 5 x_2) (cwV 3 hts (gV_ t_2403 t_2405 t_100 t_198 t_2406) rfl rfl rfl (by decide +kernel) ⟨(show 0 + 1 ≤ N + 1 + 24 by omega), (show 8 + (4 + 11) + 0 ≤ 60 * (N + 1) + 700 by omega)⟩) (pre3V g hK ma0_ ka0_ (by decide) (q := (RX14, TX14, 67)) rfl) rfl hl.1 rfl (lv_room (Nat.le_of_ble_eq_true rfl)) dX14_readName_305 (cl_f hck_0) g hK (by decide) (by decide) (fx' := [(14, 17, a0_, .int x_29), (12, 24, q0_, .ref a_28), (14, 10, a0_, .int x_8), (14, 2, a0_, .ref q0_), (14, 16, a0_, .int o_), (14, 25, a0_, .int op_)]) rfl (fun xr_174 fr_174 H locs mxr_174 kxr_174 hp hMr_174 g => ?_) (fun fr_174 H locs hp hMr_174 g => ?_)
                      · have hG_175 := isN.frame hMr_174 go_.2.2.2.1 ma0_ ka0_ (by decide) (by decide) hG_85
                        have hG_176 := cEq.frame hMr_174 go_.2.2.2.1 ma0_ ka0_ (by decide) (by decide) hG_86
                        have hG_177 := isV.frame hMr_174 go_.2.2.2.1 mq0_ kq0_ (by decide) (by decide) hG_87
                        have hG_178 := FR.frame hMr_174 go_.2.2.2.1 mq0_ kq0_ (by decide) (by decide) hG_88
                        exact hp.elim
                      · have hG_179 := isN.frame hMr_174 go_.2.2.2.1 ma0_ ka0_ (by decide) (by decide) hG_85
                        have hG_180 := cEq.frame hMr_174 go_.2.2.2.1 ma0_ ka0_ (by decide) (by decide) hG_86
                        have hG_181 := isV.frame hMr_174 go_.2.2.2.1 mq0_ kq0_ (by decide) (by decide) hG_87
                        have hG_182 := FR.frame hMr_174 go_.2.2.2.1 mq0_ kq0_ (by decide) (by decide) hG_88
                        refine lv_aload_n hx hb dX14_readName_308 rfl (lv_at hl 6 rfl) ?_
                        refine lv_iload hx hb dX14_readName_309 (lv_at hl 0 rfl) ?_
                        refine lv_iload_n hx hb dX14_readName_311 rfl (lv_at hl 5 rfl) ?_
                        refine lv_iload_n hx hb dX14_readName_312 rfl (lv_at hl 7 rfl) ?_
                        have qc__183 : cF fr_174 a0_ = _ := hG_180
                        have b_184 : bd 0 1201 x_8 := ⟨(by have h9_0 := bo_; unfold bd at h9_0; have h9_1 := bop_; unfold bd at h9_1; have h9_2 := b_170; unfold bd at h9_2; have h9_3 := bso_; unfold bd at h9_3; have h9_4 := b_55; unfold bd at h9_4; have h9_5 := b_27; unfold bd at h9_5; have h9_6 := b_173; unfold bd at h9_6; have h9_7 := bx_2; unfold bd at h9_7; have h9_8 := bx_29; unfold bd at h9_8; have h9_9 := b_38; unfold bd at h9_9; have h9_10 := bx_66; unfold bd at h9_10; have h9_11 := h_9; unfold bd at h9_11; have h9_12 := b_68; unfold bd at h9_12; have h8_0 := kb_0; unfold bd at h8_0; have h8_1 := kb_1; unfold bd at h8_1; have h8_2 := kb_1200; unfold bd at h8_2; have h8_3 := kb_40; unfold bd at h8_3; omega), (by have h9_0 := bo_; unfold bd at h9_0; have h9_1 := bop_; unfold bd at h9_1; have h9_2 := b_170; unfold bd at h9_2; have h9_3 := bso_; unfold bd at h9_3; have h9_4 := b_55; unfold bd at h9_4; have h9_5 := b_27; unfold bd at h9_5; have h9_6 := b_173; unfold bd at h9_6; have h9_7 := bx_2; unfold bd at h9_7; have h9_8 := bx_29; unfold bd at h9_8; have h9_9 := b_38; unfold bd at h9_9; have h9_10 := bx_66; unfold bd at h9_10; have h9_11 := h_9; unfold bd at h9_11; have h9_12 := b_68; unfold bd at h9_12; have h8_0 := kb_0; unfold bd at h8_0; have h8_1 := kb_1; unfold bd at h8_1; have h8_2 := kb_1200; unfold bd at h8_2; have h8_3 := kb_40; unfold bd at h8_3; omega)⟩
                        have go_ := g
                        refine g_callXi (As := [.int r_83, .int x_2, .int x1_]) (rest := []) ⟨hx, hb, hml, hown, hts⟩ (ih.2.2.2.2.2.1 l dC dI L kd tys fr_174 H.size g.2.2.2.1 adK adV a0_ ma0_ ka0_ r_83 x_2 x1_ (bd_sub b_27 (by decide)) q0_ mq0_ kq0_ V_76 o_ bo_ op_ bop_ x_8 b_184 hG_181 hw_79 (by rw [hx_81.2.2.1 0 (by decide)]; exact ho) (by omega) hm_ hhm hv_171 (K_ - cl_0) (by omega) (by have h9_0 := bo_; unfold bd at h9_0; have h9_1 := bop_; unfold bd at h9_1; have h9_2 := b_170; unfold bd at h9_2; have h9_3 := bso_; unfold bd at h9_3; have h9_4 := b_55; unfold bd at h9_4; have h9_5 := b_27; unfold bd at h9_5; have h9_6 := b_173; unfold bd at h9_6; have h9_7 := bx_2; unfold bd at h9_7; have h9_8 := bx_29; unfold bd at h9_8; have h9_9 := b_38; unfold bd at h9_9; have h9_10 := bx_66; unfold bd at h9_10; have h9_11 := b_184; unfold bd at h9_11; have h9_12 := b_68; unfold bd at h9_12; have h8_0 := kb_0; unfold bd at h8_0; have h8_1 := kb_1; unfold bd at h8_1; have h8_2 := kb_1200; unfold bd at h8_2; have h8_3 := kb_40; unfold bd at h8_3; omega) (g.fcts [3, 4, 5, 2] rfl)) (cwV 3 hts (gV_ t_2512 t_2514 t_124 t_198 t_2515) rfl rfl rfl (by decide +kernel) ⟨(show N + 24 + 1 ≤ N + 1 + 24 by omega), (show 8 + (8 + 11) + (60 * N + 700) ≤ 60 * (N + 1) + 700 by omega)⟩) (pre3VA g hK hAm ma0_ ka0_ (by decide) (q := (RX14, TX14, 67)) rfl) rfl hl.1 rfl (lv_room (Nat.le_of_ble_eq_true rfl)) dX14_readName_313 (cl_k (K := K_) (k := K_ - cl_0) (show cl_0 + (K_ - cl_0) ≤ K_ by omega)) g hK (by decide) (by decide) (fx' := [(14, 17, a0_, .int x_29), (12, 24, q0_, .ref a_28), (14, 2, a0_, .ref q0_), (14, 16, a0_, .int o_)]) rfl (fun xr_185 fr_185 H locs kr_185 cr_185 ecr_185 mxr_185 kxr_185 hp hMr_185 g => ?_) (fun r_185 fr_185 H locs kr_185 cr_185 ecr_185 hp hMr_185 g => ?_)
                        · have hG_186 := isN.frame hMr_185 go_.2.2.2.1 ma0_ ka0_ (by decide) (by decide) hG_179
                          subst hQ
                          exact leavesX hempty hlocks (fun t ht hW => g_thrX g hK mxr_185 kxr_185 (by omega) ht hW) g.2.2.1.2.2
                        · obtain ⟨hx_187, x_188, h_189, hF_190⟩ := hp
                          have hG_191 := isN.frame hMr_185 go_.2.2.2.1 ma0_ ka0_ (by decide) (by decide) hG_179
                          obtain ⟨V_192, E_193, hV_194, hF_195, hE_196, hX_197, hw_198, hv_199, hP_200, hn_201, hk_202, hc_203⟩ := rd_use hx_187 hG_180
                          have hF_204 := FR.call (mds := []) (mas := []) hG_182 go_ mq0_ kq0_ rfl hF_195
                          have mxE_193 : E_193 ≤ 1202 := by have h9 := cF_le g ma0_ ka0_; have h8 : cF _ _ = _ := hE_196; omega
                          have hx_205 := exN.tr hx_81 hX_197
                          have hv_206 := exN.var hX_197 hv_171
                          have hd_207 := nmd_ex hX_197 hd_90
                          have hck_208 : cr_185 ≤ K_ := by omega
                          have b_209 : bd 0 2499 r_185 := ⟨hv_199.1, (by have h9 := hv_199.2.1; omega)⟩
                          have g := g.more hF_190
                          have h9c : cF fr_185 a0_ = _ := hE_196
                          subst hQ
                          exact iretX (v := r_185) hx hb hr (fun t ht hW => g_retX g hK ⟨_, rfl, ⟨⟨_, hV_194, hF_204, hx_205, hw_198, hv_199, ⟨Or.inl hP_200, fun _ => hP_200⟩, (by omega), (by omega), (by omega)⟩, x_188, h_189, (g.fcts [0, 1] rfl)⟩⟩ ht hW) g.2.2.1.2.2 dX14_readName_316 hlocks
                    · have fc_172 := neq_f c_172
                      have b_210 : bd 1 1 x2_ := neX fc_172 bx2_ kb_0 (by decide)
                      refine lv_iload hx hb dX14_readName_290 (lv_at hl 0 rfl) ?_
                      refine lv_sipush (v := 1000) hx hb dX14_readName_292 (by decide) ?_
                      have kb_1000 : bd 1000 1000 (1000 : Int32) := ⟨by decide, by decide⟩
                      refine lv_icmp_ge (tgt := 302) hx hb dX14_readName_295 (by decide) (fun c_211 => ?_) (fun c_211 => ?_)
                      · have fc_211 := le_f c_211
                        refine lv_iconst (v := 0) hx hb dX14_readName_302 (by decide) ?_
                        refine lv_iconst (v := 5) hx hb dX14_readName_303 (by decide) ?_
                        refine lv_iload_n hx hb dX14_readName_304 rfl (lv_at hl 5 rfl) ?_
                        have go_ := g
                        refine g_callEv (As := [.int 0, .int 5, .int x_2]) (rest := []) ⟨hx, hb, hml, hown, hts⟩ (r_X14_need_2 l dC dI L kd tys fr_83 H.size g.2.2.2.1 a0_ ma0_ ka0_ 0 kb_0 5 x_2) (cwV 3 hts (gV_ t_2403 t_2405 t_100 t_198 t_2406) rfl rfl rfl (by decide +kernel) ⟨(show 1 + 1 ≤ N + 1 + 24 by omega), (show 8 + (4 + 11) + 22 ≤ 60 * (N + 1) + 700 by omega)⟩) (pre3V g hK ma0_ ka0_ (by decide) (q := (RX14, TX14, 67)) rfl) rfl hl.1 rfl (lv_room (Nat.le_of_ble_eq_true rfl)) dX14_readName_305 (cl_f hck_0) g hK (by decide) (by decide) (fx' := [(14, 17, a0_, .int x_29), (12, 24, q0_, .ref a_28), (14, 10, a0_, .int x_8), (14, 2, a0_, .ref q0_), (14, 16, a0_, .int o_), (14, 25, a0_, .int op_)]) rfl (fun xr_212 fr_212 H locs mxr_212 kxr_212 hp hMr_212 g => ?_) (fun fr_212 H locs hp hMr_212 g => ?_)
                        · have hG_213 := isN.frame hMr_212 go_.2.2.2.1 ma0_ ka0_ (by decide) (by decide) hG_85
                          have hG_214 := cEq.frame hMr_212 go_.2.2.2.1 ma0_ ka0_ (by decide) (by decide) hG_86
                          have hG_215 := isV.frame hMr_212 go_.2.2.2.1 mq0_ kq0_ (by decide) (by decide) hG_87
                          have hG_216 := FR.frame hMr_212 go_.2.2.2.1 mq0_ kq0_ (by decide) (by decide) hG_88
                          subst hQ
                          exact leavesX hempty hlocks (fun t ht hW => g_thrX g hK mxr_212 kxr_212 (by omega) ht hW) g.2.2.1.2.2
                        · exact hp.elim
                      · have fc_211 := nle_f c_211
                        have b_217 : bd 1000 999 r_83 := ltL fc_211 b_170 kb_1000 (by decide)
                        exact bd_no b_217 (by decide)
                  · have b_218 : bd 2000 2007 r_83 := ⟨h_89.1, h_89.2⟩
                    have hv_219 : varOK V_76 r_83 o_.toNatClampNeg := Or.inr (Or.inr h_89)
                    refine lv_istore (lv' := [(10, .int r_83), (9, .int 0), (8, .int t_), (6, .long x_4), (4, .long x_3), (3, .int x_2), (0, .ref a0_), (1, .int x1_), (2, .int x2_)]) hx hb dX14_readName_283 hl (by decide) rfl (fun ls hl => ?_)
                    refine lv_aload_n hx hb dX14_readName_285 rfl (lv_at hl 6 rfl) ?_
                    refine lv_iload_n hx hb dX14_readName_286 rfl (lv_at hl 8 rfl) ?_
                    refine lv_if_eq (tgt := 298) hx hb dX14_readName_287 (by decide) (fun c_220 => ?_) (fun c_220 => ?_)
                    · have fc_220 := eq_f c_220
                      have b_221 : bd 0 0 x2_ := eqX fc_220 bx2_ kb_0 (by decide)
                      refine lv_iconst (v := 1) hx hb dX14_readName_298 (by decide) ?_
                      refine lv_goto (tgt := 303) hx hb dX14_readName_299 (by decide) ?_
                      refine lv_iconst (v := 5) hx hb dX14_readName_303 (by decide) ?_
                      refine lv_iload_n hx hb dX14_readName_304 rfl (lv_at hl 5 rfl) ?_
                      have go_ := g
                      refine g_callEv (As := [.int 1, .int 5, .int x_2]) (rest := []) ⟨hx, hb, hml, hown, hts⟩ (r_X14_need_3 l dC dI L kd tys fr_83 H.size g.2.2.2.1 a0_ ma0_ ka0_ 1 kb_1 5 x_2) (cwV 3 hts (gV_ t_2403 t_2405 t_100 t_198 t_2406) rfl rfl rfl (by decide +kernel) ⟨(show 0 + 1 ≤ N + 1 + 24 by omega), (show 8 + (4 + 11) + 0 ≤ 60 * (N + 1) + 700 by omega)⟩) (pre3V g hK ma0_ ka0_ (by decide) (q := (RX14, TX14, 67)) rfl) rfl hl.1 rfl (lv_room (Nat.le_of_ble_eq_true rfl)) dX14_readName_305 (cl_f hck_0) g hK (by decide) (by decide) (fx' := [(14, 17, a0_, .int x_29), (12, 24, q0_, .ref a_28), (14, 10, a0_, .int x_8), (14, 2, a0_, .ref q0_), (14, 16, a0_, .int o_), (14, 25, a0_, .int op_)]) rfl (fun xr_222 fr_222 H locs mxr_222 kxr_222 hp hMr_222 g => ?_) (fun fr_222 H locs hp hMr_222 g => ?_)
                      · have hG_223 := isN.frame hMr_222 go_.2.2.2.1 ma0_ ka0_ (by decide) (by decide) hG_85
                        have hG_224 := cEq.frame hMr_222 go_.2.2.2.1 ma0_ ka0_ (by decide) (by decide) hG_86
                        have hG_225 := isV.frame hMr_222 go_.2.2.2.1 mq0_ kq0_ (by decide) (by decide) hG_87
                        have hG_226 := FR.frame hMr_222 go_.2.2.2.1 mq0_ kq0_ (by decide) (by decide) hG_88
                        exact hp.elim
                      · have hG_227 := isN.frame hMr_222 go_.2.2.2.1 ma0_ ka0_ (by decide) (by decide) hG_85
                        have hG_228 := cEq.frame hMr_222 go_.2.2.2.1 ma0_ ka0_ (by decide) (by decide) hG_86
                        have hG_229 := isV.frame hMr_222 go_.2.2.2.1 mq0_ kq0_ (by decide) (by decide) hG_87
                        have hG_230 := FR.frame hMr_222 go_.2.2.2.1 mq0_ kq0_ (by decide) (by decide) hG_88
                        refine lv_aload_n hx hb dX14_readName_308 rfl (lv_at hl 6 rfl) ?_
                        refine lv_iload hx hb dX14_readName_309 (lv_at hl 0 rfl) ?_
                        refine lv_iload_n hx hb dX14_readName_311 rfl (lv_at hl 5 rfl) ?_
                        refine lv_iload_n hx hb dX14_readName_312 rfl (lv_at hl 7 rfl) ?_
                        have qc__231 : cF fr_222 a0_ = _ := hG_228
                        have b_232 : bd 0 1201 x_8 := ⟨(by have h9_0 := bo_; unfold bd at h9_0; have h9_1 := bop_; unfold bd at h9_1; have h9_2 := b_218; unfold bd at h9_2; have h9_3 := bso_; unfold bd at h9_3; have h9_4 := b_55; unfold bd at h9_4; have h9_5 := b_27; unfold bd at h9_5; have h9_6 := b_221; unfold bd at h9_6; have h9_7 := bx_2; unfold bd at h9_7; have h9_8 := bx_29; unfold bd at h9_8; have h9_9 := b_38; unfold bd at h9_9; have h9_10 := bx_66; unfold bd at h9_10; have h9_11 := h_9; unfold bd at h9_11; have h9_12 := b_68; unfold bd at h9_12; have h8_0 := kb_0; unfold bd at h8_0; have h8_1 := kb_1; unfold bd at h8_1; have h8_2 := kb_1200; unfold bd at h8_2; have h8_3 := kb_40; unfold bd at h8_3; omega), (by have h9_0 := bo_; unfold bd at h9_0; have h9_1 := bop_; unfold bd at h9_1; have h9_2 := b_218; unfold bd at h9_2; have h9_3 := bso_; unfold bd at h9_3; have h9_4 := b_55; unfold bd at h9_4; have h9_5 := b_27; unfold bd at h9_5; have h9_6 := b_221; unfold bd at h9_6; have h9_7 := bx_2; unfold bd at h9_7; have h9_8 := bx_29; unfold bd at h9_8; have h9_9 := b_38; unfold bd at h9_9; have h9_10 := bx_66; unfold bd at h9_10; have h9_11 := h_9; unfold bd at h9_11; have h9_12 := b_68; unfold bd at h9_12; have h8_0 := kb_0; unfold bd at h8_0; have h8_1 := kb_1; unfold bd at h8_1; have h8_2 := kb_1200; unfold bd at h8_2; have h8_3 := kb_40; unfold bd at h8_3; omega)⟩
                        have go_ := g
                        refine g_callXi (As := [.int r_83, .int x_2, .int x1_]) (rest := []) ⟨hx, hb, hml, hown, hts⟩ (ih.2.2.2.2.2.1 l dC dI L kd tys fr_222 H.size g.2.2.2.1 adK adV a0_ ma0_ ka0_ r_83 x_2 x1_ (bd_sub b_27 (by decide)) q0_ mq0_ kq0_ V_76 o_ bo_ op_ bop_ x_8 b_232 hG_229 hw_79 (by rw [hx_81.2.2.1 0 (by decide)]; exact ho) (by omega) hm_ hhm hv_219 (K_ - cl_0) (by omega) (by have h9_0 := bo_; unfold bd at h9_0; have h9_1 := bop_; unfold bd at h9_1; have h9_2 := b_218; unfold bd at h9_2; have h9_3 := bso_; unfold bd at h9_3; have h9_4 := b_55; unfold bd at h9_4; have h9_5 := b_27; unfold bd at h9_5; have h9_6 := b_221; unfold bd at h9_6; have h9_7 := bx_2; unfold bd at h9_7; have h9_8 := bx_29; unfold bd at h9_8; have h9_9 := b_38; unfold bd at h9_9; have h9_10 := bx_66; unfold bd at h9_10; have h9_11 := b_232; unfold bd at h9_11; have h9_12 := b_68; unfold bd at h9_12; have h8_0 := kb_0; unfold bd at h8_0; have h8_1 := kb_1; unfold bd at h8_1; have h8_2 := kb_1200; unfold bd at h8_2; have h8_3 := kb_40; unfold bd at h8_3; omega) (g.fcts [3, 4, 5, 2] rfl)) (cwV 3 hts (gV_ t_2512 t_2514 t_124 t_198 t_2515) rfl rfl rfl (by decide +kernel) ⟨(show N + 24 + 1 ≤ N + 1 + 24 by omega), (show 8 + (8 + 11) + (60 * N + 700) ≤ 60 * (N + 1) + 700 by omega)⟩) (pre3VA g hK hAm ma0_ ka0_ (by decide) (q := (RX14, TX14, 67)) rfl) rfl hl.1 rfl (lv_room (Nat.le_of_ble_eq_true rfl)) dX14_readName_313 (cl_k (K := K_) (k := K_ - cl_0) (show cl_0 + (K_ - cl_0) ≤ K_ by omega)) g hK (by decide) (by decide) (fx' := [(14, 17, a0_, .int x_29), (12, 24, q0_, .ref a_28), (14, 2, a0_, .ref q0_), (14, 16, a0_, .int o_)]) rfl (fun xr_233 fr_233 H locs kr_233 cr_233 ecr_233 mxr_233 kxr_233 hp hMr_233 g => ?_) (fun r_233 fr_233 H locs kr_233 cr_233 ecr_233 hp hMr_233 g => ?_)
                        · have hG_234 := isN.frame hMr_233 go_.2.2.2.1 ma0_ ka0_ (by decide) (by decide) hG_227
                          subst hQ
                          exact leavesX hempty hlocks (fun t ht hW => g_thrX g hK mxr_233 kxr_233 (by omega) ht hW) g.2.2.1.2.2
                        · obtain ⟨hx_235, x_236, h_237, hF_238⟩ := hp
                          have hG_239 := isN.frame hMr_233 go_.2.2.2.1 ma0_ ka0_ (by decide) (by decide) hG_227
                          obtain ⟨V_240, E_241, hV_242, hF_243, hE_244, hX_245, hw_246, hv_247, hP_248, hn_249, hk_250, hc_251⟩ := rd_use hx_235 hG_228
                          have hF_252 := FR.call (mds := []) (mas := []) hG_230 go_ mq0_ kq0_ rfl hF_243
                          have mxE_241 : E_241 ≤ 1202 := by have h9 := cF_le g ma0_ ka0_; have h8 : cF _ _ = _ := hE_244; omega
                          have hx_253 := exN.tr hx_81 hX_245
                          have hv_254 := exN.var hX_245 hv_219
                          have hd_255 := nmd_ex hX_245 hd_90
                          have hck_256 : cr_233 ≤ K_ := by omega
                          have b_257 : bd 0 2499 r_233 := ⟨hv_247.1, (by have h9 := hv_247.2.1; omega)⟩
                          have g := g.more hF_238
                          have h9c : cF fr_233 a0_ = _ := hE_244
                          subst hQ
                          exact iretX (v := r_233) hx hb hr (fun t ht hW => g_retX g hK ⟨_, rfl, ⟨⟨_, hV_242, hF_252, hx_253, hw_246, hv_247, ⟨Or.inl hP_248, fun _ => hP_248⟩, (by omega), (by omega), (by omega)⟩, x_236, h_237, (g.fcts [0, 1] rfl)⟩⟩ ht hW) g.2.2.1.2.2 dX14_readName_316 hlocks
                    · have fc_220 := neq_f c_220
                      have b_258 : bd 1 1 x2_ := neX fc_220 bx2_ kb_0 (by decide)
                      refine lv_iload hx hb dX14_readName_290 (lv_at hl 0 rfl) ?_
                      refine lv_sipush (v := 1000) hx hb dX14_readName_292 (by decide) ?_
                      have kb_1000 : bd 1000 1000 (1000 : Int32) := ⟨by decide, by decide⟩
                      refine lv_icmp_ge (tgt := 302) hx hb dX14_readName_295 (by decide) (fun c_259 => ?_) (fun c_259 => ?_)
                      · have fc_259 := le_f c_259
                        refine lv_iconst (v := 0) hx hb dX14_readName_302 (by decide) ?_
                        refine lv_iconst (v := 5) hx hb dX14_readName_303 (by decide) ?_
                        refine lv_iload_n hx hb dX14_readName_304 rfl (lv_at hl 5 rfl) ?_
                        have go_ := g
                        refine g_callEv (As := [.int 0, .int 5, .int x_2]) (rest := []) ⟨hx, hb, hml, hown, hts⟩ (r_X14_need_2 l dC dI L kd tys fr_83 H.size g.2.2.2.1 a0_ ma0_ ka0_ 0 kb_0 5 x_2) (cwV 3 hts (gV_ t_2403 t_2405 t_100 t_198 t_2406) rfl rfl rfl (by decide +kernel) ⟨(show 1 + 1 ≤ N + 1 + 24 by omega), (show 8 + (4 + 11) + 22 ≤ 60 * (N + 1) + 700 by omega)⟩) (pre3V g hK ma0_ ka0_ (by decide) (q := (RX14, TX14, 67)) rfl) rfl hl.1 rfl (lv_room (Nat.le_of_ble_eq_true rfl)) dX14_readName_305 (cl_f hck_0) g hK (by decide) (by decide) (fx' := [(14, 17, a0_, .int x_29), (12, 24, q0_, .ref a_28), (14, 10, a0_, .int x_8), (14, 2, a0_, .ref q0_), (14, 16, a0_, .int o_), (14, 25, a0_, .int op_)]) rfl (fun xr_260 fr_260 H locs mxr_260 kxr_260 hp hMr_260 g => ?_) (fun fr_260 H locs hp hMr_260 g => ?_)
                        · have hG_261 := isN.frame hMr_260 go_.2.2.2.1 ma0_ ka0_ (by decide) (by decide) hG_85
                          have hG_262 := cEq.frame hMr_260 go_.2.2.2.1 ma0_ ka0_ (by decide) (by decide) hG_86
                          have hG_263 := isV.frame hMr_260 go_.2.2.2.1 mq0_ kq0_ (by decide) (by decide) hG_87
                          have hG_264 := FR.frame hMr_260 go_.2.2.2.1 mq0_ kq0_ (by decide) (by decide) hG_88
                          subst hQ
                          exact leavesX hempty hlocks (fun t ht hW => g_thrX g hK mxr_260 kxr_260 (by omega) ht hW) g.2.2.1.2.2
                        · exact hp.elim
                      · have fc_259 := nle_f c_259
                        have b_265 : bd 2000 999 r_83 := ltL fc_259 b_218 kb_1000 (by decide)
                        exact bd_no b_265 (by decide)
                · have fc_65 := neq_f c_65
                  have b_266 : bd 1 (-1) x1_ := neX fc_65 b_27 kb_0 (by decide)
                  exact bd_no b_266 (by decide)
      · have fc_26 := neq_f c_26
        have b_267 : bd 1 1 x1_ := neX fc_26 bx1_ kb_0 (by decide)
        refine lv_aload_n hx hb dX14_readName_98 rfl (lv_at hl 5 rfl) ?_
        refine g_getk (C := RX14) (T := TX14) (N := 67) hx hb hts (mc_ inX14) hown hK g rfl 2 (by decide) rfl (hts _ (List.mem_cons_of_mem _ t_2148)) (fun _ h9 => h9) 1 rfl dX14_readName_99 ?_
        refine g_geti (C := RX12) (T := TX12) (N := 60) hx hb hts (mc_ inX12) hown hK g mq0_ kq0_ (by decide) rfl 58 (by decide) rfl (hts _ (List.mem_cons_of_mem _ t_2018)) (fun _ h9 => h9) rfl dX14_readName_102 (fun x_268 bx_268 g => ?_)
        refine lv_sipush (v := 2000) hx hb dX14_readName_105 (by decide) ?_
        have kb_2000 : bd 2000 2000 (2000 : Int32) := ⟨by decide, by decide⟩
        refine lv_icmp_ge (tgt := 115) hx hb dX14_readName_108 (by decide) (fun c_269 => ?_) (fun c_269 => ?_)
        · have fc_269 := le_f c_269
          have b_270 : bd 2000 2147483647 x_268 := leR fc_269 kb_2000 (bdT x_268) (by decide)
          refine lv_iconst (v := 0) hx hb dX14_readName_115 (by decide) ?_
          refine lv_goto (tgt := 141) hx hb dX14_readName_116 (by decide) ?_
          refine lv_iconst (v := 4) hx hb dX14_readName_141 (by decide) ?_
          refine lv_iload_n hx hb dX14_readName_142 rfl (lv_at hl 4 rfl) ?_
          have go_ := g
          refine g_callEv (As := [.int 0, .int 4, .int x_2]) (rest := []) ⟨hx, hb, hml, hown, hts⟩ (r_X14_need_2 l dC dI L kd tys f H.size g.2.2.2.1 a0_ ma0_ ka0_ 0 kb_0 4 x_2) (cwV 3 hts (gV_ t_2403 t_2405 t_100 t_198 t_2406) rfl rfl rfl (by decide +kernel) ⟨(show 1 + 1 ≤ N + 1 + 24 by omega), (show 8 + (4 + 11) + 22 ≤ 60 * (N + 1) + 700 by omega)⟩) (pre3V g hK ma0_ ka0_ (by decide) (q := (RX14, TX14, 67)) rfl) rfl hl.1 rfl (lv_room (Nat.le_of_ble_eq_true rfl)) dX14_readName_143 (cl_f hck_0) g hK (by decide) (by decide) (fx' := [(12, 58, q0_, .int x_268), (14, 10, a0_, .int x_8), (14, 2, a0_, .ref q0_), (14, 16, a0_, .int o_), (14, 25, a0_, .int op_)]) rfl (fun xr_271 fr_271 H locs mxr_271 kxr_271 hp hMr_271 g => ?_) (fun fr_271 H locs hp hMr_271 g => ?_)
          · have hG_272 := isV.frame hMr_271 go_.2.2.2.1 mq0_ kq0_ (by decide) (by decide) hJ93_V_q0_
            have hG_273 := FR.frame hMr_271 go_.2.2.2.1 mq0_ kq0_ (by decide) (by decide) hJ93_F_q0_
            have hG_274 := isN.frame hMr_271 go_.2.2.2.1 ma0_ ka0_ (by decide) (by decide) hJ93_N_a0_
            have hG_275 := cEq.frame hMr_271 go_.2.2.2.1 ma0_ ka0_ (by decide) (by decide) hJ93_C_a0_
            subst hQ
            exact leavesX hempty hlocks (fun t ht hW => g_thrX g hK mxr_271 kxr_271 (by omega) ht hW) g.2.2.1.2.2
          · exact hp.elim
        · have fc_269 := nle_f c_269
          have b_276 : bd (-2147483648) 1999 x_268 := ltL fc_269 (bdT x_268) kb_2000 (by decide)
          refine lv_iconst (v := 1) hx hb dX14_readName_111 (by decide) ?_
          refine lv_goto (tgt := 141) hx hb dX14_readName_112 (by decide) ?_
          refine lv_iconst (v := 4) hx hb dX14_readName_141 (by decide) ?_
          refine lv_iload_n hx hb dX14_readName_142 rfl (lv_at hl 4 rfl) ?_
          have kb_1 : bd 1 1 (1 : Int32) := ⟨by decide, by decide⟩
          have go_ := g
          refine g_callEv (As := [.int 1, .int 4, .int x_2]) (rest := []) ⟨hx, hb, hml, hown, hts⟩ (r_X14_need_3 l dC dI L kd tys f H.size g.2.2.2.1 a0_ ma0_ ka0_ 1 kb_1 4 x_2) (cwV 3 hts (gV_ t_2403 t_2405 t_100 t_198 t_2406) rfl rfl rfl (by decide +kernel) ⟨(show 0 + 1 ≤ N + 1 + 24 by omega), (show 8 + (4 + 11) + 0 ≤ 60 * (N + 1) + 700 by omega)⟩) (pre3V g hK ma0_ ka0_ (by decide) (q := (RX14, TX14, 67)) rfl) rfl hl.1 rfl (lv_room (Nat.le_of_ble_eq_true rfl)) dX14_readName_143 (cl_f hck_0) g hK (by decide) (by decide) (fx' := [(12, 58, q0_, .int x_268), (14, 10, a0_, .int x_8), (14, 2, a0_, .ref q0_), (14, 16, a0_, .int o_), (14, 25, a0_, .int op_)]) rfl (fun xr_277 fr_277 H locs mxr_277 kxr_277 hp hMr_277 g => ?_) (fun fr_277 H locs hp hMr_277 g => ?_)
          · have hG_278 := isV.frame hMr_277 go_.2.2.2.1 mq0_ kq0_ (by decide) (by decide) hJ93_V_q0_
            have hG_279 := FR.frame hMr_277 go_.2.2.2.1 mq0_ kq0_ (by decide) (by decide) hJ93_F_q0_
            have hG_280 := isN.frame hMr_277 go_.2.2.2.1 ma0_ ka0_ (by decide) (by decide) hJ93_N_a0_
            have hG_281 := cEq.frame hMr_277 go_.2.2.2.1 ma0_ ka0_ (by decide) (by decide) hJ93_C_a0_
            exact hp.elim
          · have hG_282 := isV.frame hMr_277 go_.2.2.2.1 mq0_ kq0_ (by decide) (by decide) hJ93_V_q0_
            have hG_283 := FR.frame hMr_277 go_.2.2.2.1 mq0_ kq0_ (by decide) (by decide) hJ93_F_q0_
            have hG_284 := isN.frame hMr_277 go_.2.2.2.1 ma0_ ka0_ (by decide) (by decide) hJ93_N_a0_
            have hG_285 := cEq.frame hMr_277 go_.2.2.2.1 ma0_ ka0_ (by decide) (by decide) hJ93_C_a0_
            refine lv_aload_n hx hb dX14_readName_146 rfl (lv_at hl 5 rfl) ?_
            refine lv_iload hx hb dX14_readName_147 (lv_at hl 1 rfl) ?_
            refine lv_sipush (v := 1200) hx hb dX14_readName_149 (by decide) ?_
            have kb_1200 : bd 1200 1200 (1200 : Int32) := ⟨by decide, by decide⟩
            refine lv_icmp_gt (tgt := 159) hx hb dX14_readName_152 (by decide) (fun c_286 => ?_) (fun c_286 => ?_)
            · have fc_286 := lt_f c_286
              have b_287 : bd 1201 1201 t_ := ltR fc_286 kb_1200 bt_ (by decide)
              refine lv_iconst (v := 0) hx hb dX14_readName_159 (by decide) ?_
              refine lv_iconst (v := 4) hx hb dX14_readName_160 (by decide) ?_
              refine lv_iload_n hx hb dX14_readName_161 rfl (lv_at hl 4 rfl) ?_
              have go_ := g
              refine g_callEv (As := [.int 0, .int 4, .int x_2]) (rest := []) ⟨hx, hb, hml, hown, hts⟩ (r_X14_need_2 l dC dI L kd tys fr_277 H.size g.2.2.2.1 a0_ ma0_ ka0_ 0 kb_0 4 x_2) (cwV 3 hts (gV_ t_2403 t_2405 t_100 t_198 t_2406) rfl rfl rfl (by decide +kernel) ⟨(show 1 + 1 ≤ N + 1 + 24 by omega), (show 8 + (4 + 11) + 22 ≤ 60 * (N + 1) + 700 by omega)⟩) (pre3V g hK ma0_ ka0_ (by decide) (q := (RX14, TX14, 67)) rfl) rfl hl.1 rfl (lv_room (Nat.le_of_ble_eq_true rfl)) dX14_readName_162 (cl_f hck_0) g hK (by decide) (by decide) (fx' := [(12, 58, q0_, .int x_268), (14, 10, a0_, .int x_8), (14, 2, a0_, .ref q0_), (14, 16, a0_, .int o_), (14, 25, a0_, .int op_)]) rfl (fun xr_288 fr_288 H locs mxr_288 kxr_288 hp hMr_288 g => ?_) (fun fr_288 H locs hp hMr_288 g => ?_)
              · have hG_289 := isV.frame hMr_288 go_.2.2.2.1 mq0_ kq0_ (by decide) (by decide) hG_282
                have hG_290 := FR.frame hMr_288 go_.2.2.2.1 mq0_ kq0_ (by decide) (by decide) hG_283
                have hG_291 := isN.frame hMr_288 go_.2.2.2.1 ma0_ ka0_ (by decide) (by decide) hG_284
                have hG_292 := cEq.frame hMr_288 go_.2.2.2.1 ma0_ ka0_ (by decide) (by decide) hG_285
                subst hQ
                exact leavesX hempty hlocks (fun t ht hW => g_thrX g hK mxr_288 kxr_288 (by omega) ht hW) g.2.2.1.2.2
              · exact hp.elim
            · have fc_286 := nlt_f c_286
              have b_293 : bd 0 1200 t_ := leL fc_286 bt_ kb_1200 (by decide)
              refine lv_iconst (v := 1) hx hb dX14_readName_155 (by decide) ?_
              refine lv_goto (tgt := 160) hx hb dX14_readName_156 (by decide) ?_
              refine lv_iconst (v := 4) hx hb dX14_readName_160 (by decide) ?_
              refine lv_iload_n hx hb dX14_readName_161 rfl (lv_at hl 4 rfl) ?_
              have go_ := g
              refine g_callEv (As := [.int 1, .int 4, .int x_2]) (rest := []) ⟨hx, hb, hml, hown, hts⟩ (r_X14_need_3 l dC dI L kd tys fr_277 H.size g.2.2.2.1 a0_ ma0_ ka0_ 1 kb_1 4 x_2) (cwV 3 hts (gV_ t_2403 t_2405 t_100 t_198 t_2406) rfl rfl rfl (by decide +kernel) ⟨(show 0 + 1 ≤ N + 1 + 24 by omega), (show 8 + (4 + 11) + 0 ≤ 60 * (N + 1) + 700 by omega)⟩) (pre3V g hK ma0_ ka0_ (by decide) (q := (RX14, TX14, 67)) rfl) rfl hl.1 rfl (lv_room (Nat.le_of_ble_eq_true rfl)) dX14_readName_162 (cl_f hck_0) g hK (by decide) (by decide) (fx' := [(12, 58, q0_, .int x_268), (14, 10, a0_, .int x_8), (14, 2, a0_, .ref q0_), (14, 16, a0_, .int o_), (14, 25, a0_, .int op_)]) rfl (fun xr_294 fr_294 H locs mxr_294 kxr_294 hp hMr_294 g => ?_) (fun fr_294 H locs hp hMr_294 g => ?_)
              · have hG_295 := isV.frame hMr_294 go_.2.2.2.1 mq0_ kq0_ (by decide) (by decide) hG_282
                have hG_296 := FR.frame hMr_294 go_.2.2.2.1 mq0_ kq0_ (by decide) (by decide) hG_283
                have hG_297 := isN.frame hMr_294 go_.2.2.2.1 ma0_ ka0_ (by decide) (by decide) hG_284
                have hG_298 := cEq.frame hMr_294 go_.2.2.2.1 ma0_ ka0_ (by decide) (by decide) hG_285
                exact hp.elim
              · have hG_299 := isV.frame hMr_294 go_.2.2.2.1 mq0_ kq0_ (by decide) (by decide) hG_282
                have hG_300 := FR.frame hMr_294 go_.2.2.2.1 mq0_ kq0_ (by decide) (by decide) hG_283
                have hG_301 := isN.frame hMr_294 go_.2.2.2.1 ma0_ ka0_ (by decide) (by decide) hG_284
                have hG_302 := cEq.frame hMr_294 go_.2.2.2.1 ma0_ ka0_ (by decide) (by decide) hG_285
                refine lv_iload_n hx hb dX14_readName_165 rfl (lv_at hl 6 rfl) ?_
                refine lv_if_eq (tgt := 185) hx hb dX14_readName_166 (by decide) (fun c_303 => ?_) (fun c_303 => ?_)
                · have fc_303 := eq_f c_303
                  exact absurd fc_303 fc_26
                · have fc_303 := neq_f c_303
                  refine lv_aload_n hx hb dX14_readName_169 rfl (lv_at hl 5 rfl) ?_
                  refine g_getk (C := RX14) (T := TX14) (N := 67) hx hb hts (mc_ inX14) hown hK g rfl 2 (by decide) rfl (hts _ (List.mem_cons_of_mem _ t_2148)) (fun _ h9 => h9) 2 rfl dX14_readName_170 ?_
                  refine lv_dup hx hb dX14_readName_173 rfl ?_
                  refine g_getk (C := RX12) (T := TX12) (N := 60) hx hb hts (mc_ inX12) hown hK g rfl 58 (by decide) rfl (hts _ (List.mem_cons_of_mem _ t_2018)) (fun _ h9 => h9) 0 rfl dX14_readName_174 ?_
                  refine lv_iconst (v := 1) hx hb dX14_readName_177 (by decide) ?_
                  refine lv_iadd hx hb dX14_readName_178 ?_
                  refine lv_topi (fun y_304 ey_304 => ?_)
                  have ty_304 := add_bd ey_304 b_276 kb_1 (by decide)
                  have b_305 : bd (-2147483647) 2000 y_304 := add_rg ty_304 b_276 kb_1 (by decide)
                  have gp_306 := g
                  have go_ := g
                  refine g_putX (C := RX12) (T := TX12) (N := 60) hx hb hts (mc_ inX12) tyX12 tyX12_ok nmX12 hown hK g mq0_ kq0_ (by decide) rfl 58 (by decide) (hts _ (List.mem_cons_of_mem _ t_2018)) (fun _ h9 => h9) rfl rfl (okV_i (bd_sub b_305 (by decide))) rfl rfl (by decide) (Or.inr (Or.inl (by decide))) (fx' := [(14, 10, a0_, .int x_8), (14, 2, a0_, .ref q0_), (14, 16, a0_, .int o_), (14, 25, a0_, .int op_)]) rfl dX14_readName_179 (fun f H locs hM_307 u_310 g => ?_)
                  have hG_308 := isN.frame hM_307 go_.2.2.2.1 ma0_ ka0_ (by decide) (by decide) hG_301
                  have hG_309 := cEq.frame hM_307 go_.2.2.2.1 ma0_ ka0_ (by decide) (by decide) hG_302
                  have hV_311 := isV.u58 hG_299 gp_306.2.2.2.1 mq0_ kq0_ u_310
                  have hF_312 := FR.fld hG_300 u_310
                  refine lv_goto (tgt := 201) hx hb dX14_readName_182 (by decide) ?_
                  refine lv_iload hx hb dX14_readName_201 (lv_at hl 0 rfl) ?_
                  refine lv_if_eq (tgt := 275) hx hb dX14_readName_203 (by decide) (fun c_ => ?_) (fun c_ => absurd (by decide) c_)
                  refine lv_aload_n hx hb dX14_readName_275 rfl (lv_at hl 5 rfl) ?_
                  refine lv_lload hx hb dX14_readName_276 (lv_at hl 3 rfl) ?_
                  refine lv_lload hx hb dX14_readName_278 (lv_at hl 2 rfl) ?_
                  have go_ := g
                  refine g_calli (va_runV (As := [.long x_3, .long x_4]) (rest := []) ⟨hx, hb, hml, hown, hts⟩ (r_X14_named_2 l dC dI L kd tys f H.size g.2.2.2.1 a0_ ma0_ ka0_ x_3 x_4 q0_ mq0_ kq0_ o_ bo_ V_ N_ hG_308 hV_311 (g.fcts [2, 3] rfl)) (cwV 2 hts (gV_ t_2504 t_2506 t_122 t_198 t_2507) rfl rfl rfl (by decide +kernel) ⟨(show 1 + 1 ≤ N + 1 + 24 by omega), (show 8 + (6 + 11) + 26 ≤ 60 * (N + 1) + 700 by omega)⟩) (pre3V g hK ma0_ ka0_ (by decide) (q := (RX14, TX14, 67)) rfl) rfl rfl hl.1 rfl (lv_room (Nat.le_of_ble_eq_true rfl)) dX14_readName_280 (cl_f hck_0)) g hK (by decide) (by decide) (fx' := [(12, 58, q0_, .int y_304), (14, 10, a0_, .int x_8), (14, 2, a0_, .ref q0_), (14, 16, a0_, .int o_), (14, 25, a0_, .int op_)]) rfl (fun r_313 fr_313 H locs hp hMr_313 g => ?_)
                  obtain ⟨hx_314, -⟩ := hp
                  have hG_315 := isN.frame hMr_313 go_.2.2.2.1 ma0_ ka0_ (by decide) (by decide) hG_308
                  have hG_316 := cEq.frame hMr_313 go_.2.2.2.1 ma0_ ka0_ (by decide) (by decide) hG_309
                  have hG_317 := isV.frame hMr_313 go_.2.2.2.1 mq0_ kq0_ (by decide) (by decide) hV_311
                  have hG_318 := FR.frame hMr_313 go_.2.2.2.1 mq0_ kq0_ (by decide) (by decide) hF_312
                  rcases hx_314 with ⟨h_319, hd_320⟩ | ⟨h_319 | h_319 | h_319, hd_320⟩
                  · obtain rfl : r_313 = (-1) := Int32.toInt_inj.mp (h_319.trans (by decide))
                    exact absurd hd93 hd_320
                  · have b_321 : bd 0 9 r_313 := ⟨h_319.1, h_319.2.1⟩
                    have hv_322 : varOK V_ r_313 o_.toNatClampNeg := Or.inl h_319
                    refine lv_istore (lv' := [(10, .int r_313), (9, .int 0), (8, .int t_), (6, .long x_4), (4, .long x_3), (3, .int x_2), (0, .ref a0_), (1, .int x1_), (2, .int x2_)]) hx hb dX14_readName_283 hl (by decide) rfl (fun ls hl => ?_)
                    refine lv_aload_n hx hb dX14_readName_285 rfl (lv_at hl 6 rfl) ?_
                    refine lv_iload_n hx hb dX14_readName_286 rfl (lv_at hl 8 rfl) ?_
                    refine lv_if_eq (tgt := 298) hx hb dX14_readName_287 (by decide) (fun c_323 => ?_) (fun c_323 => ?_)
                    · have fc_323 := eq_f c_323
                      have b_324 : bd 0 0 x2_ := eqX fc_323 bx2_ kb_0 (by decide)
                      refine lv_iconst (v := 1) hx hb dX14_readName_298 (by decide) ?_
                      refine lv_goto (tgt := 303) hx hb dX14_readName_299 (by decide) ?_
                      refine lv_iconst (v := 5) hx hb dX14_readName_303 (by decide) ?_
                      refine lv_iload_n hx hb dX14_readName_304 rfl (lv_at hl 5 rfl) ?_
                      have go_ := g
                      refine g_callEv (As := [.int 1, .int 5, .int x_2]) (rest := []) ⟨hx, hb, hml, hown, hts⟩ (r_X14_need_3 l dC dI L kd tys fr_313 H.size g.2.2.2.1 a0_ ma0_ ka0_ 1 kb_1 5 x_2) (cwV 3 hts (gV_ t_2403 t_2405 t_100 t_198 t_2406) rfl rfl rfl (by decide +kernel) ⟨(show 0 + 1 ≤ N + 1 + 24 by omega), (show 8 + (4 + 11) + 0 ≤ 60 * (N + 1) + 700 by omega)⟩) (pre3V g hK ma0_ ka0_ (by decide) (q := (RX14, TX14, 67)) rfl) rfl hl.1 rfl (lv_room (Nat.le_of_ble_eq_true rfl)) dX14_readName_305 (cl_f hck_0) g hK (by decide) (by decide) (fx' := [(12, 58, q0_, .int y_304), (14, 10, a0_, .int x_8), (14, 2, a0_, .ref q0_), (14, 16, a0_, .int o_), (14, 25, a0_, .int op_)]) rfl (fun xr_325 fr_325 H locs mxr_325 kxr_325 hp hMr_325 g => ?_) (fun fr_325 H locs hp hMr_325 g => ?_)
                      · have hG_326 := isN.frame hMr_325 go_.2.2.2.1 ma0_ ka0_ (by decide) (by decide) hG_315
                        have hG_327 := cEq.frame hMr_325 go_.2.2.2.1 ma0_ ka0_ (by decide) (by decide) hG_316
                        have hG_328 := isV.frame hMr_325 go_.2.2.2.1 mq0_ kq0_ (by decide) (by decide) hG_317
                        have hG_329 := FR.frame hMr_325 go_.2.2.2.1 mq0_ kq0_ (by decide) (by decide) hG_318
                        exact hp.elim
                      · have hG_330 := isN.frame hMr_325 go_.2.2.2.1 ma0_ ka0_ (by decide) (by decide) hG_315
                        have hG_331 := cEq.frame hMr_325 go_.2.2.2.1 ma0_ ka0_ (by decide) (by decide) hG_316
                        have hG_332 := isV.frame hMr_325 go_.2.2.2.1 mq0_ kq0_ (by decide) (by decide) hG_317
                        have hG_333 := FR.frame hMr_325 go_.2.2.2.1 mq0_ kq0_ (by decide) (by decide) hG_318
                        refine lv_aload_n hx hb dX14_readName_308 rfl (lv_at hl 6 rfl) ?_
                        refine lv_iload hx hb dX14_readName_309 (lv_at hl 0 rfl) ?_
                        refine lv_iload_n hx hb dX14_readName_311 rfl (lv_at hl 5 rfl) ?_
                        refine lv_iload_n hx hb dX14_readName_312 rfl (lv_at hl 7 rfl) ?_
                        have qc__334 : cF fr_325 a0_ = _ := hG_331
                        have b_335 : bd 0 1201 x_8 := ⟨(by have h9_0 := bo_; unfold bd at h9_0; have h9_1 := bop_; unfold bd at h9_1; have h9_2 := b_321; unfold bd at h9_2; have h9_3 := bso_; unfold bd at h9_3; have h9_4 := b_293; unfold bd at h9_4; have h9_5 := b_267; unfold bd at h9_5; have h9_6 := b_324; unfold bd at h9_6; have h9_7 := bx_2; unfold bd at h9_7; have h9_8 := b_276; unfold bd at h9_8; have h9_9 := h_9; unfold bd at h9_9; have h9_10 := b_305; unfold bd at h9_10; have h8_0 := kb_0; unfold bd at h8_0; have h8_1 := kb_1; unfold bd at h8_1; have h8_2 := kb_1200; unfold bd at h8_2; have h8_3 := kb_2000; unfold bd at h8_3; omega), (by have h9_0 := bo_; unfold bd at h9_0; have h9_1 := bop_; unfold bd at h9_1; have h9_2 := b_321; unfold bd at h9_2; have h9_3 := bso_; unfold bd at h9_3; have h9_4 := b_293; unfold bd at h9_4; have h9_5 := b_267; unfold bd at h9_5; have h9_6 := b_324; unfold bd at h9_6; have h9_7 := bx_2; unfold bd at h9_7; have h9_8 := b_276; unfold bd at h9_8; have h9_9 := h_9; unfold bd at h9_9; have h9_10 := b_305; unfold bd at h9_10; have h8_0 := kb_0; unfold bd at h8_0; have h8_1 := kb_1; unfold bd at h8_1; have h8_2 := kb_1200; unfold bd at h8_2; have h8_3 := kb_2000; unfold bd at h8_3; omega)⟩
                        have go_ := g
                        refine g_callXi (As := [.int r_313, .int x_2, .int x1_]) (rest := []) ⟨hx, hb, hml, hown, hts⟩ (ih.2.2.2.2.2.1 l dC dI L kd tys fr_325 H.size g.2.2.2.1 adK adV a0_ ma0_ ka0_ r_313 x_2 x1_ (bd_sub b_267 (by decide)) q0_ mq0_ kq0_ V_ o_ bo_ op_ bop_ x_8 b_335 hG_332 hwf ho (by omega) hm_ hhm hv_322 (K_ - cl_0) (by omega) (by have h9_0 := bo_; unfold bd at h9_0; have h9_1 := bop_; unfold bd at h9_1; have h9_2 := b_321; unfold bd at h9_2; have h9_3 := bso_; unfold bd at h9_3; have h9_4 := b_293; unfold bd at h9_4; have h9_5 := b_267; unfold bd at h9_5; have h9_6 := b_324; unfold bd at h9_6; have h9_7 := bx_2; unfold bd at h9_7; have h9_8 := b_276; unfold bd at h9_8; have h9_9 := b_335; unfold bd at h9_9; have h9_10 := b_305; unfold bd at h9_10; have h8_0 := kb_0; unfold bd at h8_0; have h8_1 := kb_1; unfold bd at h8_1; have h8_2 := kb_1200; unfold bd at h8_2; have h8_3 := kb_2000; unfold bd at h8_3; omega) (g.fcts [2, 3, 4, 1] rfl)) (cwV 3 hts (gV_ t_2512 t_2514 t_124 t_198 t_2515) rfl rfl rfl (by decide +kernel) ⟨(show N + 24 + 1 ≤ N + 1 + 24 by omega), (show 8 + (8 + 11) + (60 * N + 700) ≤ 60 * (N + 1) + 700 by omega)⟩) (pre3VA g hK hAm ma0_ ka0_ (by decide) (q := (RX14, TX14, 67)) rfl) rfl hl.1 rfl (lv_room (Nat.le_of_ble_eq_true rfl)) dX14_readName_313 (cl_k (K := K_) (k := K_ - cl_0) (show cl_0 + (K_ - cl_0) ≤ K_ by omega)) g hK (by decide) (by decide) (fx' := [(14, 2, a0_, .ref q0_), (14, 16, a0_, .int o_)]) rfl (fun xr_336 fr_336 H locs kr_336 cr_336 ecr_336 mxr_336 kxr_336 hp hMr_336 g => ?_) (fun r_336 fr_336 H locs kr_336 cr_336 ecr_336 hp hMr_336 g => ?_)
                        · have hG_337 := isN.frame hMr_336 go_.2.2.2.1 ma0_ ka0_ (by decide) (by decide) hG_330
                          subst hQ
                          exact leavesX hempty hlocks (fun t ht hW => g_thrX g hK mxr_336 kxr_336 (by omega) ht hW) g.2.2.1.2.2
                        · obtain ⟨hx_338, x_339, h_340, hF_341⟩ := hp
                          have hG_342 := isN.frame hMr_336 go_.2.2.2.1 ma0_ ka0_ (by decide) (by decide) hG_330
                          obtain ⟨V_343, E_344, hV_345, hF_346, hE_347, hX_348, hw_349, hv_350, hP_351, hn_352, hk_353, hc_354⟩ := rd_use hx_338 hG_331
                          have hF_355 := FR.call (mds := []) (mas := []) hG_333 go_ mq0_ kq0_ rfl hF_346
                          have mxE_344 : E_344 ≤ 1202 := by have h9 := cF_le g ma0_ ka0_; have h8 : cF _ _ = _ := hE_347; omega
                          have hx_356 := exN.tr exN.rf hX_348
                          have hv_357 := exN.var hX_348 hv_322
                          have hd_358 := nmd_ex hX_348 hd_320
                          have hck_359 : cr_336 ≤ K_ := by omega
                          have b_360 : bd 0 2499 r_336 := ⟨hv_350.1, (by have h9 := hv_350.2.1; omega)⟩
                          have g := g.more hF_341
                          have h9c : cF fr_336 a0_ = _ := hE_347
                          subst hQ
                          exact iretX (v := r_336) hx hb hr (fun t ht hW => g_retX g hK ⟨_, rfl, ⟨⟨_, hV_345, hF_355, hx_356, hw_349, hv_350, ⟨Or.inl hP_351, fun _ => hP_351⟩, (by omega), (by omega), (by omega)⟩, x_339, h_340, (g.fcts [0, 1] rfl)⟩⟩ ht hW) g.2.2.1.2.2 dX14_readName_316 hlocks
                    · have fc_323 := neq_f c_323
                      have b_361 : bd 1 1 x2_ := neX fc_323 bx2_ kb_0 (by decide)
                      refine lv_iload hx hb dX14_readName_290 (lv_at hl 0 rfl) ?_
                      refine lv_sipush (v := 1000) hx hb dX14_readName_292 (by decide) ?_
                      have kb_1000 : bd 1000 1000 (1000 : Int32) := ⟨by decide, by decide⟩
                      refine lv_icmp_ge (tgt := 302) hx hb dX14_readName_295 (by decide) (fun c_362 => ?_) (fun c_362 => ?_)
                      · have fc_362 := le_f c_362
                        have b_363 : bd 1000 9 (1000 : Int32) := leL fc_362 kb_1000 b_321 (by decide)
                        exact bd_no (eqX rfl b_363 kb_1000 (lo := 1000) (hi := 9) (by decide)) (by decide)
                      · have fc_362 := nle_f c_362
                        refine lv_iconst (v := 1) hx hb dX14_readName_298 (by decide) ?_
                        refine lv_goto (tgt := 303) hx hb dX14_readName_299 (by decide) ?_
                        refine lv_iconst (v := 5) hx hb dX14_readName_303 (by decide) ?_
                        refine lv_iload_n hx hb dX14_readName_304 rfl (lv_at hl 5 rfl) ?_
                        have go_ := g
                        refine g_callEv (As := [.int 1, .int 5, .int x_2]) (rest := []) ⟨hx, hb, hml, hown, hts⟩ (r_X14_need_3 l dC dI L kd tys fr_313 H.size g.2.2.2.1 a0_ ma0_ ka0_ 1 kb_1 5 x_2) (cwV 3 hts (gV_ t_2403 t_2405 t_100 t_198 t_2406) rfl rfl rfl (by decide +kernel) ⟨(show 0 + 1 ≤ N + 1 + 24 by omega), (show 8 + (4 + 11) + 0 ≤ 60 * (N + 1) + 700 by omega)⟩) (pre3V g hK ma0_ ka0_ (by decide) (q := (RX14, TX14, 67)) rfl) rfl hl.1 rfl (lv_room (Nat.le_of_ble_eq_true rfl)) dX14_readName_305 (cl_f hck_0) g hK (by decide) (by decide) (fx' := [(12, 58, q0_, .int y_304), (14, 10, a0_, .int x_8), (14, 2, a0_, .ref q0_), (14, 16, a0_, .int o_), (14, 25, a0_, .int op_)]) rfl (fun xr_364 fr_364 H locs mxr_364 kxr_364 hp hMr_364 g => ?_) (fun fr_364 H locs hp hMr_364 g => ?_)
                        · have hG_365 := isN.frame hMr_364 go_.2.2.2.1 ma0_ ka0_ (by decide) (by decide) hG_315
                          have hG_366 := cEq.frame hMr_364 go_.2.2.2.1 ma0_ ka0_ (by decide) (by decide) hG_316
                          have hG_367 := isV.frame hMr_364 go_.2.2.2.1 mq0_ kq0_ (by decide) (by decide) hG_317
                          have hG_368 := FR.frame hMr_364 go_.2.2.2.1 mq0_ kq0_ (by decide) (by decide) hG_318
                          exact hp.elim
                        · have hG_369 := isN.frame hMr_364 go_.2.2.2.1 ma0_ ka0_ (by decide) (by decide) hG_315
                          have hG_370 := cEq.frame hMr_364 go_.2.2.2.1 ma0_ ka0_ (by decide) (by decide) hG_316
                          have hG_371 := isV.frame hMr_364 go_.2.2.2.1 mq0_ kq0_ (by decide) (by decide) hG_317
                          have hG_372 := FR.frame hMr_364 go_.2.2.2.1 mq0_ kq0_ (by decide) (by decide) hG_318
                          refine lv_aload_n hx hb dX14_readName_308 rfl (lv_at hl 6 rfl) ?_
                          refine lv_iload hx hb dX14_readName_309 (lv_at hl 0 rfl) ?_
                          refine lv_iload_n hx hb dX14_readName_311 rfl (lv_at hl 5 rfl) ?_
                          refine lv_iload_n hx hb dX14_readName_312 rfl (lv_at hl 7 rfl) ?_
                          have qc__373 : cF fr_364 a0_ = _ := hG_370
                          have b_374 : bd 0 1201 x_8 := ⟨(by have h9_0 := bo_; unfold bd at h9_0; have h9_1 := bop_; unfold bd at h9_1; have h9_2 := b_321; unfold bd at h9_2; have h9_3 := bso_; unfold bd at h9_3; have h9_4 := b_293; unfold bd at h9_4; have h9_5 := b_267; unfold bd at h9_5; have h9_6 := b_361; unfold bd at h9_6; have h9_7 := bx_2; unfold bd at h9_7; have h9_8 := b_276; unfold bd at h9_8; have h9_9 := h_9; unfold bd at h9_9; have h9_10 := b_305; unfold bd at h9_10; have h8_0 := kb_0; unfold bd at h8_0; have h8_1 := kb_1; unfold bd at h8_1; have h8_2 := kb_1000; unfold bd at h8_2; have h8_3 := kb_1200; unfold bd at h8_3; have h8_4 := kb_2000; unfold bd at h8_4; omega), (by have h9_0 := bo_; unfold bd at h9_0; have h9_1 := bop_; unfold bd at h9_1; have h9_2 := b_321; unfold bd at h9_2; have h9_3 := bso_; unfold bd at h9_3; have h9_4 := b_293; unfold bd at h9_4; have h9_5 := b_267; unfold bd at h9_5; have h9_6 := b_361; unfold bd at h9_6; have h9_7 := bx_2; unfold bd at h9_7; have h9_8 := b_276; unfold bd at h9_8; have h9_9 := h_9; unfold bd at h9_9; have h9_10 := b_305; unfold bd at h9_10; have h8_0 := kb_0; unfold bd at h8_0; have h8_1 := kb_1; unfold bd at h8_1; have h8_2 := kb_1000; unfold bd at h8_2; have h8_3 := kb_1200; unfold bd at h8_3; have h8_4 := kb_2000; unfold bd at h8_4; omega)⟩
                          have go_ := g
                          refine g_callXi (As := [.int r_313, .int x_2, .int x1_]) (rest := []) ⟨hx, hb, hml, hown, hts⟩ (ih.2.2.2.2.2.1 l dC dI L kd tys fr_364 H.size g.2.2.2.1 adK adV a0_ ma0_ ka0_ r_313 x_2 x1_ (bd_sub b_267 (by decide)) q0_ mq0_ kq0_ V_ o_ bo_ op_ bop_ x_8 b_374 hG_371 hwf ho (by omega) hm_ hhm hv_322 (K_ - cl_0) (by omega) (by have h9_0 := bo_; unfold bd at h9_0; have h9_1 := bop_; unfold bd at h9_1; have h9_2 := b_321; unfold bd at h9_2; have h9_3 := bso_; unfold bd at h9_3; have h9_4 := b_293; unfold bd at h9_4; have h9_5 := b_267; unfold bd at h9_5; have h9_6 := b_361; unfold bd at h9_6; have h9_7 := bx_2; unfold bd at h9_7; have h9_8 := b_276; unfold bd at h9_8; have h9_9 := b_374; unfold bd at h9_9; have h9_10 := b_305; unfold bd at h9_10; have h8_0 := kb_0; unfold bd at h8_0; have h8_1 := kb_1; unfold bd at h8_1; have h8_2 := kb_1000; unfold bd at h8_2; have h8_3 := kb_1200; unfold bd at h8_3; have h8_4 := kb_2000; unfold bd at h8_4; omega) (g.fcts [2, 3, 4, 1] rfl)) (cwV 3 hts (gV_ t_2512 t_2514 t_124 t_198 t_2515) rfl rfl rfl (by decide +kernel) ⟨(show N + 24 + 1 ≤ N + 1 + 24 by omega), (show 8 + (8 + 11) + (60 * N + 700) ≤ 60 * (N + 1) + 700 by omega)⟩) (pre3VA g hK hAm ma0_ ka0_ (by decide) (q := (RX14, TX14, 67)) rfl) rfl hl.1 rfl (lv_room (Nat.le_of_ble_eq_true rfl)) dX14_readName_313 (cl_k (K := K_) (k := K_ - cl_0) (show cl_0 + (K_ - cl_0) ≤ K_ by omega)) g hK (by decide) (by decide) (fx' := [(14, 2, a0_, .ref q0_), (14, 16, a0_, .int o_)]) rfl (fun xr_375 fr_375 H locs kr_375 cr_375 ecr_375 mxr_375 kxr_375 hp hMr_375 g => ?_) (fun r_375 fr_375 H locs kr_375 cr_375 ecr_375 hp hMr_375 g => ?_)
                          · have hG_376 := isN.frame hMr_375 go_.2.2.2.1 ma0_ ka0_ (by decide) (by decide) hG_369
                            subst hQ
                            exact leavesX hempty hlocks (fun t ht hW => g_thrX g hK mxr_375 kxr_375 (by omega) ht hW) g.2.2.1.2.2
                          · obtain ⟨hx_377, x_378, h_379, hF_380⟩ := hp
                            have hG_381 := isN.frame hMr_375 go_.2.2.2.1 ma0_ ka0_ (by decide) (by decide) hG_369
                            obtain ⟨V_382, E_383, hV_384, hF_385, hE_386, hX_387, hw_388, hv_389, hP_390, hn_391, hk_392, hc_393⟩ := rd_use hx_377 hG_370
                            have hF_394 := FR.call (mds := []) (mas := []) hG_372 go_ mq0_ kq0_ rfl hF_385
                            have mxE_383 : E_383 ≤ 1202 := by have h9 := cF_le g ma0_ ka0_; have h8 : cF _ _ = _ := hE_386; omega
                            have hx_395 := exN.tr exN.rf hX_387
                            have hv_396 := exN.var hX_387 hv_322
                            have hd_397 := nmd_ex hX_387 hd_320
                            have hck_398 : cr_375 ≤ K_ := by omega
                            have b_399 : bd 0 2499 r_375 := ⟨hv_389.1, (by have h9 := hv_389.2.1; omega)⟩
                            have g := g.more hF_380
                            have h9c : cF fr_375 a0_ = _ := hE_386
                            subst hQ
                            exact iretX (v := r_375) hx hb hr (fun t ht hW => g_retX g hK ⟨_, rfl, ⟨⟨_, hV_384, hF_394, hx_395, hw_388, hv_389, ⟨Or.inl hP_390, fun _ => hP_390⟩, (by omega), (by omega), (by omega)⟩, x_378, h_379, (g.fcts [0, 1] rfl)⟩⟩ ht hW) g.2.2.1.2.2 dX14_readName_316 hlocks
                  · have b_400 : bd 1000 1002 r_313 := ⟨h_319.1, h_319.2⟩
                    have hv_401 : varOK V_ r_313 o_.toNatClampNeg := Or.inr (Or.inl h_319)
                    refine lv_istore (lv' := [(10, .int r_313), (9, .int 0), (8, .int t_), (6, .long x_4), (4, .long x_3), (3, .int x_2), (0, .ref a0_), (1, .int x1_), (2, .int x2_)]) hx hb dX14_readName_283 hl (by decide) rfl (fun ls hl => ?_)
                    refine lv_aload_n hx hb dX14_readName_285 rfl (lv_at hl 6 rfl) ?_
                    refine lv_iload_n hx hb dX14_readName_286 rfl (lv_at hl 8 rfl) ?_
                    refine lv_if_eq (tgt := 298) hx hb dX14_readName_287 (by decide) (fun c_402 => ?_) (fun c_402 => ?_)
                    · have fc_402 := eq_f c_402
                      have b_403 : bd 0 0 x2_ := eqX fc_402 bx2_ kb_0 (by decide)
                      refine lv_iconst (v := 1) hx hb dX14_readName_298 (by decide) ?_
                      refine lv_goto (tgt := 303) hx hb dX14_readName_299 (by decide) ?_
                      refine lv_iconst (v := 5) hx hb dX14_readName_303 (by decide) ?_
                      refine lv_iload_n hx hb dX14_readName_304 rfl (lv_at hl 5 rfl) ?_
                      have go_ := g
                      refine g_callEv (As := [.int 1, .int 5, .int x_2]) (rest := []) ⟨hx, hb, hml, hown, hts⟩ (r_X14_need_3 l dC dI L kd tys fr_313 H.size g.2.2.2.1 a0_ ma0_ ka0_ 1 kb_1 5 x_2) (cwV 3 hts (gV_ t_2403 t_2405 t_100 t_198 t_2406) rfl rfl rfl (by decide +kernel) ⟨(show 0 + 1 ≤ N + 1 + 24 by omega), (show 8 + (4 + 11) + 0 ≤ 60 * (N + 1) + 700 by omega)⟩) (pre3V g hK ma0_ ka0_ (by decide) (q := (RX14, TX14, 67)) rfl) rfl hl.1 rfl (lv_room (Nat.le_of_ble_eq_true rfl)) dX14_readName_305 (cl_f hck_0) g hK (by decide) (by decide) (fx' := [(12, 58, q0_, .int y_304), (14, 10, a0_, .int x_8), (14, 2, a0_, .ref q0_), (14, 16, a0_, .int o_), (14, 25, a0_, .int op_)]) rfl (fun xr_404 fr_404 H locs mxr_404 kxr_404 hp hMr_404 g => ?_) (fun fr_404 H locs hp hMr_404 g => ?_)
                      · have hG_405 := isN.frame hMr_404 go_.2.2.2.1 ma0_ ka0_ (by decide) (by decide) hG_315
                        have hG_406 := cEq.frame hMr_404 go_.2.2.2.1 ma0_ ka0_ (by decide) (by decide) hG_316
                        have hG_407 := isV.frame hMr_404 go_.2.2.2.1 mq0_ kq0_ (by decide) (by decide) hG_317
                        have hG_408 := FR.frame hMr_404 go_.2.2.2.1 mq0_ kq0_ (by decide) (by decide) hG_318
                        exact hp.elim
                      · have hG_409 := isN.frame hMr_404 go_.2.2.2.1 ma0_ ka0_ (by decide) (by decide) hG_315
                        have hG_410 := cEq.frame hMr_404 go_.2.2.2.1 ma0_ ka0_ (by decide) (by decide) hG_316
                        have hG_411 := isV.frame hMr_404 go_.2.2.2.1 mq0_ kq0_ (by decide) (by decide) hG_317
                        have hG_412 := FR.frame hMr_404 go_.2.2.2.1 mq0_ kq0_ (by decide) (by decide) hG_318
                        refine lv_aload_n hx hb dX14_readName_308 rfl (lv_at hl 6 rfl) ?_
                        refine lv_iload hx hb dX14_readName_309 (lv_at hl 0 rfl) ?_
                        refine lv_iload_n hx hb dX14_readName_311 rfl (lv_at hl 5 rfl) ?_
                        refine lv_iload_n hx hb dX14_readName_312 rfl (lv_at hl 7 rfl) ?_
                        have qc__413 : cF fr_404 a0_ = _ := hG_410
                        have b_414 : bd 0 1201 x_8 := ⟨(by have h9_0 := bo_; unfold bd at h9_0; have h9_1 := bop_; unfold bd at h9_1; have h9_2 := b_400; unfold bd at h9_2; have h9_3 := bso_; unfold bd at h9_3; have h9_4 := b_293; unfold bd at h9_4; have h9_5 := b_267; unfold bd at h9_5; have h9_6 := b_403; unfold bd at h9_6; have h9_7 := bx_2; unfold bd at h9_7; have h9_8 := b_276; unfold bd at h9_8; have h9_9 := h_9; unfold bd at h9_9; have h9_10 := b_305; unfold bd at h9_10; have h8_0 := kb_0; unfold bd at h8_0; have h8_1 := kb_1; unfold bd at h8_1; have h8_2 := kb_1200; unfold bd at h8_2; have h8_3 := kb_2000; unfold bd at h8_3; omega), (by have h9_0 := bo_; unfold bd at h9_0; have h9_1 := bop_; unfold bd at h9_1; have h9_2 := b_400; unfold bd at h9_2; have h9_3 := bso_; unfold bd at h9_3; have h9_4 := b_293; unfold bd at h9_4; have h9_5 := b_267; unfold bd at h9_5; have h9_6 := b_403; unfold bd at h9_6; have h9_7 := bx_2; unfold bd at h9_7; have h9_8 := b_276; unfold bd at h9_8; have h9_9 := h_9; unfold bd at h9_9; have h9_10 := b_305; unfold bd at h9_10; have h8_0 := kb_0; unfold bd at h8_0; have h8_1 := kb_1; unfold bd at h8_1; have h8_2 := kb_1200; unfold bd at h8_2; have h8_3 := kb_2000; unfold bd at h8_3; omega)⟩
                        have go_ := g
                        refine g_callXi (As := [.int r_313, .int x_2, .int x1_]) (rest := []) ⟨hx, hb, hml, hown, hts⟩ (ih.2.2.2.2.2.1 l dC dI L kd tys fr_404 H.size g.2.2.2.1 adK adV a0_ ma0_ ka0_ r_313 x_2 x1_ (bd_sub b_267 (by decide)) q0_ mq0_ kq0_ V_ o_ bo_ op_ bop_ x_8 b_414 hG_411 hwf ho (by omega) hm_ hhm hv_401 (K_ - cl_0) (by omega) (by have h9_0 := bo_; unfold bd at h9_0; have h9_1 := bop_; unfold bd at h9_1; have h9_2 := b_400; unfold bd at h9_2; have h9_3 := bso_; unfold bd at h9_3; have h9_4 := b_293; unfold bd at h9_4; have h9_5 := b_267; unfold bd at h9_5; have h9_6 := b_403; unfold bd at h9_6; have h9_7 := bx_2; unfold bd at h9_7; have h9_8 := b_276; unfold bd at h9_8; have h9_9 := b_414; unfold bd at h9_9; have h9_10 := b_305; unfold bd at h9_10; have h8_0 := kb_0; unfold bd at h8_0; have h8_1 := kb_1; unfold bd at h8_1; have h8_2 := kb_1200; unfold bd at h8_2; have h8_3 := kb_2000; unfold bd at h8_3; omega) (g.fcts [2, 3, 4, 1] rfl)) (cwV 3 hts (gV_ t_2512 t_2514 t_124 t_198 t_2515) rfl rfl rfl (by decide +kernel) ⟨(show N + 24 + 1 ≤ N + 1 + 24 by omega), (show 8 + (8 + 11) + (60 * N + 700) ≤ 60 * (N + 1) + 700 by omega)⟩) (pre3VA g hK hAm ma0_ ka0_ (by decide) (q := (RX14, TX14, 67)) rfl) rfl hl.1 rfl (lv_room (Nat.le_of_ble_eq_true rfl)) dX14_readName_313 (cl_k (K := K_) (k := K_ - cl_0) (show cl_0 + (K_ - cl_0) ≤ K_ by omega)) g hK (by decide) (by decide) (fx' := [(14, 2, a0_, .ref q0_), (14, 16, a0_, .int o_)]) rfl (fun xr_415 fr_415 H locs kr_415 cr_415 ecr_415 mxr_415 kxr_415 hp hMr_415 g => ?_) (fun r_415 fr_415 H locs kr_415 cr_415 ecr_415 hp hMr_415 g => ?_)
                        · have hG_416 := isN.frame hMr_415 go_.2.2.2.1 ma0_ ka0_ (by decide) (by decide) hG_409
                          subst hQ
                          exact leavesX hempty hlocks (fun t ht hW => g_thrX g hK mxr_415 kxr_415 (by omega) ht hW) g.2.2.1.2.2
                        · obtain ⟨hx_417, x_418, h_419, hF_420⟩ := hp
                          have hG_421 := isN.frame hMr_415 go_.2.2.2.1 ma0_ ka0_ (by decide) (by decide) hG_409
                          obtain ⟨V_422, E_423, hV_424, hF_425, hE_426, hX_427, hw_428, hv_429, hP_430, hn_431, hk_432, hc_433⟩ := rd_use hx_417 hG_410
                          have hF_434 := FR.call (mds := []) (mas := []) hG_412 go_ mq0_ kq0_ rfl hF_425
                          have mxE_423 : E_423 ≤ 1202 := by have h9 := cF_le g ma0_ ka0_; have h8 : cF _ _ = _ := hE_426; omega
                          have hx_435 := exN.tr exN.rf hX_427
                          have hv_436 := exN.var hX_427 hv_401
                          have hd_437 := nmd_ex hX_427 hd_320
                          have hck_438 : cr_415 ≤ K_ := by omega
                          have b_439 : bd 0 2499 r_415 := ⟨hv_429.1, (by have h9 := hv_429.2.1; omega)⟩
                          have g := g.more hF_420
                          have h9c : cF fr_415 a0_ = _ := hE_426
                          subst hQ
                          exact iretX (v := r_415) hx hb hr (fun t ht hW => g_retX g hK ⟨_, rfl, ⟨⟨_, hV_424, hF_434, hx_435, hw_428, hv_429, ⟨Or.inl hP_430, fun _ => hP_430⟩, (by omega), (by omega), (by omega)⟩, x_418, h_419, (g.fcts [0, 1] rfl)⟩⟩ ht hW) g.2.2.1.2.2 dX14_readName_316 hlocks
                    · have fc_402 := neq_f c_402
                      have b_440 : bd 1 1 x2_ := neX fc_402 bx2_ kb_0 (by decide)
                      refine lv_iload hx hb dX14_readName_290 (lv_at hl 0 rfl) ?_
                      refine lv_sipush (v := 1000) hx hb dX14_readName_292 (by decide) ?_
                      have kb_1000 : bd 1000 1000 (1000 : Int32) := ⟨by decide, by decide⟩
                      refine lv_icmp_ge (tgt := 302) hx hb dX14_readName_295 (by decide) (fun c_441 => ?_) (fun c_441 => ?_)
                      · have fc_441 := le_f c_441
                        refine lv_iconst (v := 0) hx hb dX14_readName_302 (by decide) ?_
                        refine lv_iconst (v := 5) hx hb dX14_readName_303 (by decide) ?_
                        refine lv_iload_n hx hb dX14_readName_304 rfl (lv_at hl 5 rfl) ?_
                        have go_ := g
                        refine g_callEv (As := [.int 0, .int 5, .int x_2]) (rest := []) ⟨hx, hb, hml, hown, hts⟩ (r_X14_need_2 l dC dI L kd tys fr_313 H.size g.2.2.2.1 a0_ ma0_ ka0_ 0 kb_0 5 x_2) (cwV 3 hts (gV_ t_2403 t_2405 t_100 t_198 t_2406) rfl rfl rfl (by decide +kernel) ⟨(show 1 + 1 ≤ N + 1 + 24 by omega), (show 8 + (4 + 11) + 22 ≤ 60 * (N + 1) + 700 by omega)⟩) (pre3V g hK ma0_ ka0_ (by decide) (q := (RX14, TX14, 67)) rfl) rfl hl.1 rfl (lv_room (Nat.le_of_ble_eq_true rfl)) dX14_readName_305 (cl_f hck_0) g hK (by decide) (by decide) (fx' := [(12, 58, q0_, .int y_304), (14, 10, a0_, .int x_8), (14, 2, a0_, .ref q0_), (14, 16, a0_, .int o_), (14, 25, a0_, .int op_)]) rfl (fun xr_442 fr_442 H locs mxr_442 kxr_442 hp hMr_442 g => ?_) (fun fr_442 H locs hp hMr_442 g => ?_)
                        · have hG_443 := isN.frame hMr_442 go_.2.2.2.1 ma0_ ka0_ (by decide) (by decide) hG_315
                          have hG_444 := cEq.frame hMr_442 go_.2.2.2.1 ma0_ ka0_ (by decide) (by decide) hG_316
                          have hG_445 := isV.frame hMr_442 go_.2.2.2.1 mq0_ kq0_ (by decide) (by decide) hG_317
                          have hG_446 := FR.frame hMr_442 go_.2.2.2.1 mq0_ kq0_ (by decide) (by decide) hG_318
                          subst hQ
                          exact leavesX hempty hlocks (fun t ht hW => g_thrX g hK mxr_442 kxr_442 (by omega) ht hW) g.2.2.1.2.2
                        · exact hp.elim
                      · have fc_441 := nle_f c_441
                        have b_447 : bd 1000 999 r_313 := ltL fc_441 b_400 kb_1000 (by decide)
                        exact bd_no b_447 (by decide)
                  · have b_448 : bd 2000 2007 r_313 := ⟨h_319.1, h_319.2⟩
                    have hv_449 : varOK V_ r_313 o_.toNatClampNeg := Or.inr (Or.inr h_319)
                    refine lv_istore (lv' := [(10, .int r_313), (9, .int 0), (8, .int t_), (6, .long x_4), (4, .long x_3), (3, .int x_2), (0, .ref a0_), (1, .int x1_), (2, .int x2_)]) hx hb dX14_readName_283 hl (by decide) rfl (fun ls hl => ?_)
                    refine lv_aload_n hx hb dX14_readName_285 rfl (lv_at hl 6 rfl) ?_
                    refine lv_iload_n hx hb dX14_readName_286 rfl (lv_at hl 8 rfl) ?_
                    refine lv_if_eq (tgt := 298) hx hb dX14_readName_287 (by decide) (fun c_450 => ?_) (fun c_450 => ?_)
                    · have fc_450 := eq_f c_450
                      have b_451 : bd 0 0 x2_ := eqX fc_450 bx2_ kb_0 (by decide)
                      refine lv_iconst (v := 1) hx hb dX14_readName_298 (by decide) ?_
                      refine lv_goto (tgt := 303) hx hb dX14_readName_299 (by decide) ?_
                      refine lv_iconst (v := 5) hx hb dX14_readName_303 (by decide) ?_
                      refine lv_iload_n hx hb dX14_readName_304 rfl (lv_at hl 5 rfl) ?_
                      have go_ := g
                      refine g_callEv (As := [.int 1, .int 5, .int x_2]) (rest := []) ⟨hx, hb, hml, hown, hts⟩ (r_X14_need_3 l dC dI L kd tys fr_313 H.size g.2.2.2.1 a0_ ma0_ ka0_ 1 kb_1 5 x_2) (cwV 3 hts (gV_ t_2403 t_2405 t_100 t_198 t_2406) rfl rfl rfl (by decide +kernel) ⟨(show 0 + 1 ≤ N + 1 + 24 by omega), (show 8 + (4 + 11) + 0 ≤ 60 * (N + 1) + 700 by omega)⟩) (pre3V g hK ma0_ ka0_ (by decide) (q := (RX14, TX14, 67)) rfl) rfl hl.1 rfl (lv_room (Nat.le_of_ble_eq_true rfl)) dX14_readName_305 (cl_f hck_0) g hK (by decide) (by decide) (fx' := [(12, 58, q0_, .int y_304), (14, 10, a0_, .int x_8), (14, 2, a0_, .ref q0_), (14, 16, a0_, .int o_), (14, 25, a0_, .int op_)]) rfl (fun xr_452 fr_452 H locs mxr_452 kxr_452 hp hMr_452 g => ?_) (fun fr_452 H locs hp hMr_452 g => ?_)
                      · have hG_453 := isN.frame hMr_452 go_.2.2.2.1 ma0_ ka0_ (by decide) (by decide) hG_315
                        have hG_454 := cEq.frame hMr_452 go_.2.2.2.1 ma0_ ka0_ (by decide) (by decide) hG_316
                        have hG_455 := isV.frame hMr_452 go_.2.2.2.1 mq0_ kq0_ (by decide) (by decide) hG_317
                        have hG_456 := FR.frame hMr_452 go_.2.2.2.1 mq0_ kq0_ (by decide) (by decide) hG_318
                        exact hp.elim
                      · have hG_457 := isN.frame hMr_452 go_.2.2.2.1 ma0_ ka0_ (by decide) (by decide) hG_315
                        have hG_458 := cEq.frame hMr_452 go_.2.2.2.1 ma0_ ka0_ (by decide) (by decide) hG_316
                        have hG_459 := isV.frame hMr_452 go_.2.2.2.1 mq0_ kq0_ (by decide) (by decide) hG_317
                        have hG_460 := FR.frame hMr_452 go_.2.2.2.1 mq0_ kq0_ (by decide) (by decide) hG_318
                        refine lv_aload_n hx hb dX14_readName_308 rfl (lv_at hl 6 rfl) ?_
                        refine lv_iload hx hb dX14_readName_309 (lv_at hl 0 rfl) ?_
                        refine lv_iload_n hx hb dX14_readName_311 rfl (lv_at hl 5 rfl) ?_
                        refine lv_iload_n hx hb dX14_readName_312 rfl (lv_at hl 7 rfl) ?_
                        have qc__461 : cF fr_452 a0_ = _ := hG_458
                        have b_462 : bd 0 1201 x_8 := ⟨(by have h9_0 := bo_; unfold bd at h9_0; have h9_1 := bop_; unfold bd at h9_1; have h9_2 := b_448; unfold bd at h9_2; have h9_3 := bso_; unfold bd at h9_3; have h9_4 := b_293; unfold bd at h9_4; have h9_5 := b_267; unfold bd at h9_5; have h9_6 := b_451; unfold bd at h9_6; have h9_7 := bx_2; unfold bd at h9_7; have h9_8 := b_276; unfold bd at h9_8; have h9_9 := h_9; unfold bd at h9_9; have h9_10 := b_305; unfold bd at h9_10; have h8_0 := kb_0; unfold bd at h8_0; have h8_1 := kb_1; unfold bd at h8_1; have h8_2 := kb_1200; unfold bd at h8_2; have h8_3 := kb_2000; unfold bd at h8_3; omega), (by have h9_0 := bo_; unfold bd at h9_0; have h9_1 := bop_; unfold bd at h9_1; have h9_2 := b_448; unfold bd at h9_2; have h9_3 := bso_; unfold bd at h9_3; have h9_4 := b_293; unfold bd at h9_4; have h9_5 := b_267; unfold bd at h9_5; have h9_6 := b_451; unfold bd at h9_6; have h9_7 := bx_2; unfold bd at h9_7; have h9_8 := b_276; unfold bd at h9_8; have h9_9 := h_9; unfold bd at h9_9; have h9_10 := b_305; unfold bd at h9_10; have h8_0 := kb_0; unfold bd at h8_0; have h8_1 := kb_1; unfold bd at h8_1; have h8_2 := kb_1200; unfold bd at h8_2; have h8_3 := kb_2000; unfold bd at h8_3; omega)⟩
                        have go_ := g
                        refine g_callXi (As := [.int r_313, .int x_2, .int x1_]) (rest := []) ⟨hx, hb, hml, hown, hts⟩ (ih.2.2.2.2.2.1 l dC dI L kd tys fr_452 H.size g.2.2.2.1 adK adV a0_ ma0_ ka0_ r_313 x_2 x1_ (bd_sub b_267 (by decide)) q0_ mq0_ kq0_ V_ o_ bo_ op_ bop_ x_8 b_462 hG_459 hwf ho (by omega) hm_ hhm hv_449 (K_ - cl_0) (by omega) (by have h9_0 := bo_; unfold bd at h9_0; have h9_1 := bop_; unfold bd at h9_1; have h9_2 := b_448; unfold bd at h9_2; have h9_3 := bso_; unfold bd at h9_3; have h9_4 := b_293; unfold bd at h9_4; have h9_5 := b_267; unfold bd at h9_5; have h9_6 := b_451; unfold bd at h9_6; have h9_7 := bx_2; unfold bd at h9_7; have h9_8 := b_276; unfold bd at h9_8; have h9_9 := b_462; unfold bd at h9_9; have h9_10 := b_305; unfold bd at h9_10; have h8_0 := kb_0; unfold bd at h8_0; have h8_1 := kb_1; unfold bd at h8_1; have h8_2 := kb_1200; unfold bd at h8_2; have h8_3 := kb_2000; unfold bd at h8_3; omega) (g.fcts [2, 3, 4, 1] rfl)) (cwV 3 hts (gV_ t_2512 t_2514 t_124 t_198 t_2515) rfl rfl rfl (by decide +kernel) ⟨(show N + 24 + 1 ≤ N + 1 + 24 by omega), (show 8 + (8 + 11) + (60 * N + 700) ≤ 60 * (N + 1) + 700 by omega)⟩) (pre3VA g hK hAm ma0_ ka0_ (by decide) (q := (RX14, TX14, 67)) rfl) rfl hl.1 rfl (lv_room (Nat.le_of_ble_eq_true rfl)) dX14_readName_313 (cl_k (K := K_) (k := K_ - cl_0) (show cl_0 + (K_ - cl_0) ≤ K_ by omega)) g hK (by decide) (by decide) (fx' := [(14, 2, a0_, .ref q0_), (14, 16, a0_, .int o_)]) rfl (fun xr_463 fr_463 H locs kr_463 cr_463 ecr_463 mxr_463 kxr_463 hp hMr_463 g => ?_) (fun r_463 fr_463 H locs kr_463 cr_463 ecr_463 hp hMr_463 g => ?_)
                        · have hG_464 := isN.frame hMr_463 go_.2.2.2.1 ma0_ ka0_ (by decide) (by decide) hG_457
                          subst hQ
                          exact leavesX hempty hlocks (fun t ht hW => g_thrX g hK mxr_463 kxr_463 (by omega) ht hW) g.2.2.1.2.2
                        · obtain ⟨hx_465, x_466, h_467, hF_468⟩ := hp
                          have hG_469 := isN.frame hMr_463 go_.2.2.2.1 ma0_ ka0_ (by decide) (by decide) hG_457
                          obtain ⟨V_470, E_471, hV_472, hF_473, hE_474, hX_475, hw_476, hv_477, hP_478, hn_479, hk_480, hc_481⟩ := rd_use hx_465 hG_458
                          have hF_482 := FR.call (mds := []) (mas := []) hG_460 go_ mq0_ kq0_ rfl hF_473
                          have mxE_471 : E_471 ≤ 1202 := by have h9 := cF_le g ma0_ ka0_; have h8 : cF _ _ = _ := hE_474; omega
                          have hx_483 := exN.tr exN.rf hX_475
                          have hv_484 := exN.var hX_475 hv_449
                          have hd_485 := nmd_ex hX_475 hd_320
                          have hck_486 : cr_463 ≤ K_ := by omega
                          have b_487 : bd 0 2499 r_463 := ⟨hv_477.1, (by have h9 := hv_477.2.1; omega)⟩
                          have g := g.more hF_468
                          have h9c : cF fr_463 a0_ = _ := hE_474
                          subst hQ
                          exact iretX (v := r_463) hx hb hr (fun t ht hW => g_retX g hK ⟨_, rfl, ⟨⟨_, hV_472, hF_482, hx_483, hw_476, hv_477, ⟨Or.inl hP_478, fun _ => hP_478⟩, (by omega), (by omega), (by omega)⟩, x_466, h_467, (g.fcts [0, 1] rfl)⟩⟩ ht hW) g.2.2.1.2.2 dX14_readName_316 hlocks
                    · have fc_450 := neq_f c_450
                      have b_488 : bd 1 1 x2_ := neX fc_450 bx2_ kb_0 (by decide)
                      refine lv_iload hx hb dX14_readName_290 (lv_at hl 0 rfl) ?_
                      refine lv_sipush (v := 1000) hx hb dX14_readName_292 (by decide) ?_
                      have kb_1000 : bd 1000 1000 (1000 : Int32) := ⟨by decide, by decide⟩
                      refine lv_icmp_ge (tgt := 302) hx hb dX14_readName_295 (by decide) (fun c_489 => ?_) (fun c_489 => ?_)
                      · have fc_489 := le_f c_489
                        refine lv_iconst (v := 0) hx hb dX14_readName_302 (by decide) ?_
                        refine lv_iconst (v := 5) hx hb dX14_readName_303 (by decide) ?_
                        refine lv_iload_n hx hb dX14_readName_304 rfl (lv_at hl 5 rfl) ?_
                        have go_ := g
                        refine g_callEv (As := [.int 0, .int 5, .int x_2]) (rest := []) ⟨hx, hb, hml, hown, hts⟩ (r_X14_need_2 l dC dI L kd tys fr_313 H.size g.2.2.2.1 a0_ ma0_ ka0_ 0 kb_0 5 x_2) (cwV 3 hts (gV_ t_2403 t_2405 t_100 t_198 t_2406) rfl rfl rfl (by decide +kernel) ⟨(show 1 + 1 ≤ N + 1 + 24 by omega), (show 8 + (4 + 11) + 22 ≤ 60 * (N + 1) + 700 by omega)⟩) (pre3V g hK ma0_ ka0_ (by decide) (q := (RX14, TX14, 67)) rfl) rfl hl.1 rfl (lv_room (Nat.le_of_ble_eq_true rfl)) dX14_readName_305 (cl_f hck_0) g hK (by decide) (by decide) (fx' := [(12, 58, q0_, .int y_304), (14, 10, a0_, .int x_8), (14, 2, a0_, .ref q0_), (14, 16, a0_, .int o_), (14, 25, a0_, .int op_)]) rfl (fun xr_490 fr_490 H locs mxr_490 kxr_490 hp hMr_490 g => ?_) (fun fr_490 H locs hp hMr_490 g => ?_)
                        · have hG_491 := isN.frame hMr_490 go_.2.2.2.1 ma0_ ka0_ (by decide) (by decide) hG_315
                          have hG_492 := cEq.frame hMr_490 go_.2.2.2.1 ma0_ ka0_ (by decide) (by decide) hG_316
                          have hG_493 := isV.frame hMr_490 go_.2.2.2.1 mq0_ kq0_ (by decide) (by decide) hG_317
                          have hG_494 := FR.frame hMr_490 go_.2.2.2.1 mq0_ kq0_ (by decide) (by decide) hG_318
                          subst hQ
                          exact leavesX hempty hlocks (fun t ht hW => g_thrX g hK mxr_490 kxr_490 (by omega) ht hW) g.2.2.1.2.2
                        · exact hp.elim
                      · have fc_489 := nle_f c_489
                        have b_495 : bd 2000 999 r_313 := ltL fc_489 b_448 kb_1000 (by decide)
                        exact bd_no b_495 (by decide)
    refine lv_aload_n hx hb dX14_readName_47 rfl (lv_at hl 5 rfl) ?_
    refine lv_iload hx hb dX14_readName_48 (lv_at hl 0 rfl) ?_
    refine lv_if_eq (tgt := 71) hx hb dX14_readName_50 (by decide) (fun c_ => ?_) (fun c_ => absurd (by decide) c_)
    refine lv_aload_n hx hb dX14_readName_71 rfl (lv_at hl 5 rfl) ?_
    refine lv_lload hx hb dX14_readName_72 (lv_at hl 3 rfl) ?_
    refine lv_lload hx hb dX14_readName_74 (lv_at hl 2 rfl) ?_
    have go_ := g
    refine g_calli (va_runV (As := [.long x_3, .long x_4]) (rest := [.ref a0_]) ⟨hx, hb, hml, hown, hts⟩ (r_X14_named_2 l dC dI L kd tys fr_15 H.size g.2.2.2.1 a0_ ma0_ ka0_ x_3 x_4 q0_ mq0_ kq0_ o_ bo_ V_ N_ hG_23 hG_21 (g.fcts [1, 2] rfl)) (cwV 2 hts (gV_ t_2504 t_2506 t_122 t_198 t_2507) rfl rfl rfl (by decide +kernel) ⟨(show 1 + 1 ≤ N + 1 + 24 by omega), (show 8 + (6 + 11) + 26 ≤ 60 * (N + 1) + 700 by omega)⟩) (pre3V g hK ma0_ ka0_ (by decide) (q := (RX14, TX14, 67)) rfl) rfl rfl hl.1 rfl (lv_room (Nat.le_of_ble_eq_true rfl)) dX14_readName_76 (cl_f hck_0)) g hK (by decide) (by decide) (fx' := [(14, 10, a0_, .int x_8), (14, 2, a0_, .ref q0_), (14, 16, a0_, .int o_), (14, 25, a0_, .int op_)]) rfl (fun r_496 fr_496 H locs hp hMr_496 g => ?_)
    obtain ⟨hx_497, -⟩ := hp
    have hG_498 := isV.frame hMr_496 go_.2.2.2.1 mq0_ kq0_ (by decide) (by decide) hG_21
    have hG_499 := FR.frame hMr_496 go_.2.2.2.1 mq0_ kq0_ (by decide) (by decide) hG_22
    have hG_500 := isN.frame hMr_496 go_.2.2.2.1 ma0_ ka0_ (by decide) (by decide) hG_23
    have hG_501 := cEq.frame hMr_496 go_.2.2.2.1 ma0_ ka0_ (by decide) (by decide) hG_24
    rcases hx_497 with ⟨h_502, hd_503⟩ | ⟨h_502 | h_502 | h_502, hd_503⟩
    · obtain rfl : r_496 = (-1) := Int32.toInt_inj.mp (h_502.trans (by decide))
      refine lv_iconst (v := (-1)) hx hb dX14_readName_79 (by decide) ?_
      refine lv_icmp_eq (tgt := 87) hx hb dX14_readName_80 (by decide) (fun c_ => ?_) (fun c_ => absurd (by decide) c_)
      refine lv_iconst (v := 0) hx hb dX14_readName_87 (by decide) ?_
      refine lv_iconst (v := 2) hx hb dX14_readName_88 (by decide) ?_
      refine lv_iload_n hx hb dX14_readName_89 rfl (lv_at hl 4 rfl) ?_
      have kb_0 : bd 0 0 (0 : Int32) := ⟨by decide, by decide⟩
      have go_ := g
      refine g_callEv (As := [.int 0, .int 2, .int x_2]) (rest := []) ⟨hx, hb, hml, hown, hts⟩ (r_X14_need_2 l dC dI L kd tys fr_496 H.size g.2.2.2.1 a0_ ma0_ ka0_ 0 kb_0 2 x_2) (cwV 3 hts (gV_ t_2403 t_2405 t_100 t_198 t_2406) rfl rfl rfl (by decide +kernel) ⟨(show 1 + 1 ≤ N + 1 + 24 by omega), (show 8 + (4 + 11) + 22 ≤ 60 * (N + 1) + 700 by omega)⟩) (pre3V g hK ma0_ ka0_ (by decide) (q := (RX14, TX14, 67)) rfl) rfl hl.1 rfl (lv_room (Nat.le_of_ble_eq_true rfl)) dX14_readName_90 (cl_f hck_0) g hK (by decide) (by decide) (fx' := [(14, 10, a0_, .int x_8), (14, 2, a0_, .ref q0_), (14, 16, a0_, .int o_), (14, 25, a0_, .int op_)]) rfl (fun xr_504 fr_504 H locs mxr_504 kxr_504 hp hMr_504 g => ?_) (fun fr_504 H locs hp hMr_504 g => ?_)
      · have hG_505 := isV.frame hMr_504 go_.2.2.2.1 mq0_ kq0_ (by decide) (by decide) hG_498
        have hG_506 := FR.frame hMr_504 go_.2.2.2.1 mq0_ kq0_ (by decide) (by decide) hG_499
        have hG_507 := isN.frame hMr_504 go_.2.2.2.1 ma0_ ka0_ (by decide) (by decide) hG_500
        have hG_508 := cEq.frame hMr_504 go_.2.2.2.1 ma0_ ka0_ (by decide) (by decide) hG_501
        subst hQ
        exact leavesX hempty hlocks (fun t ht hW => g_thrX g hK mxr_504 kxr_504 (by omega) ht hW) g.2.2.1.2.2
      · exact hp.elim
    · have b_509 : bd 0 9 r_496 := ⟨h_502.1, h_502.2.1⟩
      have hv_510 : varOK V_ r_496 o_.toNatClampNeg := Or.inl h_502
      refine lv_iconst (v := (-1)) hx hb dX14_readName_79 (by decide) ?_
      have kb_m1 : bd (-1) (-1) ((-1) : Int32) := ⟨by decide, by decide⟩
      refine lv_icmp_eq (tgt := 87) hx hb dX14_readName_80 (by decide) (fun c_511 => ?_) (fun c_511 => ?_)
      · have fc_511 := eq_f c_511
        have b_512 : bd 0 (-1) r_496 := eqX fc_511 b_509 kb_m1 (by decide)
        exact bd_no b_512 (by decide)
      · have fc_511 := neq_f c_511
        refine lv_iconst (v := 1) hx hb dX14_readName_83 (by decide) ?_
        refine lv_goto (tgt := 88) hx hb dX14_readName_84 (by decide) ?_
        refine lv_iconst (v := 2) hx hb dX14_readName_88 (by decide) ?_
        refine lv_iload_n hx hb dX14_readName_89 rfl (lv_at hl 4 rfl) ?_
        have kb_1 : bd 1 1 (1 : Int32) := ⟨by decide, by decide⟩
        have go_ := g
        refine g_callEv (As := [.int 1, .int 2, .int x_2]) (rest := []) ⟨hx, hb, hml, hown, hts⟩ (r_X14_need_3 l dC dI L kd tys fr_496 H.size g.2.2.2.1 a0_ ma0_ ka0_ 1 kb_1 2 x_2) (cwV 3 hts (gV_ t_2403 t_2405 t_100 t_198 t_2406) rfl rfl rfl (by decide +kernel) ⟨(show 0 + 1 ≤ N + 1 + 24 by omega), (show 8 + (4 + 11) + 0 ≤ 60 * (N + 1) + 700 by omega)⟩) (pre3V g hK ma0_ ka0_ (by decide) (q := (RX14, TX14, 67)) rfl) rfl hl.1 rfl (lv_room (Nat.le_of_ble_eq_true rfl)) dX14_readName_90 (cl_f hck_0) g hK (by decide) (by decide) (fx' := [(14, 10, a0_, .int x_8), (14, 2, a0_, .ref q0_), (14, 16, a0_, .int o_), (14, 25, a0_, .int op_)]) rfl (fun xr_513 fr_513 H locs mxr_513 kxr_513 hp hMr_513 g => ?_) (fun fr_513 H locs hp hMr_513 g => ?_)
        · have hG_514 := isV.frame hMr_513 go_.2.2.2.1 mq0_ kq0_ (by decide) (by decide) hG_498
          have hG_515 := FR.frame hMr_513 go_.2.2.2.1 mq0_ kq0_ (by decide) (by decide) hG_499
          have hG_516 := isN.frame hMr_513 go_.2.2.2.1 ma0_ ka0_ (by decide) (by decide) hG_500
          have hG_517 := cEq.frame hMr_513 go_.2.2.2.1 ma0_ ka0_ (by decide) (by decide) hG_501
          exact hp.elim
        · have hG_518 := isV.frame hMr_513 go_.2.2.2.1 mq0_ kq0_ (by decide) (by decide) hG_498
          have hG_519 := FR.frame hMr_513 go_.2.2.2.1 mq0_ kq0_ (by decide) (by decide) hG_499
          have hG_520 := isN.frame hMr_513 go_.2.2.2.1 ma0_ ka0_ (by decide) (by decide) hG_500
          have hG_521 := cEq.frame hMr_513 go_.2.2.2.1 ma0_ ka0_ (by decide) (by decide) hG_501
          have hl9 := lv_sub hl [0, 1, 2, 3, 4, 5, 6, 7] (by rfl : lv_pick [(9, .int 0), (8, .int t_), (6, .long x_4), (4, .long x_3), (3, .int x_2), (0, .ref a0_), (1, .int x1_), (2, .int x2_)] [0, 1, 2, 3, 4, 5, 6, 7] = [(9, .int 0), (8, .int t_), (6, .long x_4), (4, .long x_3), (3, .int x_2), (0, .ref a0_), (1, .int x1_), (2, .int x2_)])
          have g9 := g.sub (fx' := [(14, 10, a0_, .int x_8), (14, 2, a0_, .ref q0_), (14, 16, a0_, .int o_), (14, 25, a0_, .int op_)]) [0, 1, 2, 3] rfl
          exact join_25  _ _ _ _  g9 hG_518 hG_519 hG_520 hG_521 hd_503 hl9
    · have b_522 : bd 1000 1002 r_496 := ⟨h_502.1, h_502.2⟩
      have hv_523 : varOK V_ r_496 o_.toNatClampNeg := Or.inr (Or.inl h_502)
      refine lv_iconst (v := (-1)) hx hb dX14_readName_79 (by decide) ?_
      have kb_m1 : bd (-1) (-1) ((-1) : Int32) := ⟨by decide, by decide⟩
      refine lv_icmp_eq (tgt := 87) hx hb dX14_readName_80 (by decide) (fun c_524 => ?_) (fun c_524 => ?_)
      · have fc_524 := eq_f c_524
        have b_525 : bd 1000 (-1) r_496 := eqX fc_524 b_522 kb_m1 (by decide)
        exact bd_no b_525 (by decide)
      · have fc_524 := neq_f c_524
        refine lv_iconst (v := 1) hx hb dX14_readName_83 (by decide) ?_
        refine lv_goto (tgt := 88) hx hb dX14_readName_84 (by decide) ?_
        refine lv_iconst (v := 2) hx hb dX14_readName_88 (by decide) ?_
        refine lv_iload_n hx hb dX14_readName_89 rfl (lv_at hl 4 rfl) ?_
        have kb_1 : bd 1 1 (1 : Int32) := ⟨by decide, by decide⟩
        have go_ := g
        refine g_callEv (As := [.int 1, .int 2, .int x_2]) (rest := []) ⟨hx, hb, hml, hown, hts⟩ (r_X14_need_3 l dC dI L kd tys fr_496 H.size g.2.2.2.1 a0_ ma0_ ka0_ 1 kb_1 2 x_2) (cwV 3 hts (gV_ t_2403 t_2405 t_100 t_198 t_2406) rfl rfl rfl (by decide +kernel) ⟨(show 0 + 1 ≤ N + 1 + 24 by omega), (show 8 + (4 + 11) + 0 ≤ 60 * (N + 1) + 700 by omega)⟩) (pre3V g hK ma0_ ka0_ (by decide) (q := (RX14, TX14, 67)) rfl) rfl hl.1 rfl (lv_room (Nat.le_of_ble_eq_true rfl)) dX14_readName_90 (cl_f hck_0) g hK (by decide) (by decide) (fx' := [(14, 10, a0_, .int x_8), (14, 2, a0_, .ref q0_), (14, 16, a0_, .int o_), (14, 25, a0_, .int op_)]) rfl (fun xr_526 fr_526 H locs mxr_526 kxr_526 hp hMr_526 g => ?_) (fun fr_526 H locs hp hMr_526 g => ?_)
        · have hG_527 := isV.frame hMr_526 go_.2.2.2.1 mq0_ kq0_ (by decide) (by decide) hG_498
          have hG_528 := FR.frame hMr_526 go_.2.2.2.1 mq0_ kq0_ (by decide) (by decide) hG_499
          have hG_529 := isN.frame hMr_526 go_.2.2.2.1 ma0_ ka0_ (by decide) (by decide) hG_500
          have hG_530 := cEq.frame hMr_526 go_.2.2.2.1 ma0_ ka0_ (by decide) (by decide) hG_501
          exact hp.elim
        · have hG_531 := isV.frame hMr_526 go_.2.2.2.1 mq0_ kq0_ (by decide) (by decide) hG_498
          have hG_532 := FR.frame hMr_526 go_.2.2.2.1 mq0_ kq0_ (by decide) (by decide) hG_499
          have hG_533 := isN.frame hMr_526 go_.2.2.2.1 ma0_ ka0_ (by decide) (by decide) hG_500
          have hG_534 := cEq.frame hMr_526 go_.2.2.2.1 ma0_ ka0_ (by decide) (by decide) hG_501
          have hl9 := lv_sub hl [0, 1, 2, 3, 4, 5, 6, 7] (by rfl : lv_pick [(9, .int 0), (8, .int t_), (6, .long x_4), (4, .long x_3), (3, .int x_2), (0, .ref a0_), (1, .int x1_), (2, .int x2_)] [0, 1, 2, 3, 4, 5, 6, 7] = [(9, .int 0), (8, .int t_), (6, .long x_4), (4, .long x_3), (3, .int x_2), (0, .ref a0_), (1, .int x1_), (2, .int x2_)])
          have g9 := g.sub (fx' := [(14, 10, a0_, .int x_8), (14, 2, a0_, .ref q0_), (14, 16, a0_, .int o_), (14, 25, a0_, .int op_)]) [0, 1, 2, 3] rfl
          exact join_25  _ _ _ _  g9 hG_531 hG_532 hG_533 hG_534 hd_503 hl9
    · have b_535 : bd 2000 2007 r_496 := ⟨h_502.1, h_502.2⟩
      have hv_536 : varOK V_ r_496 o_.toNatClampNeg := Or.inr (Or.inr h_502)
      refine lv_iconst (v := (-1)) hx hb dX14_readName_79 (by decide) ?_
      have kb_m1 : bd (-1) (-1) ((-1) : Int32) := ⟨by decide, by decide⟩
      refine lv_icmp_eq (tgt := 87) hx hb dX14_readName_80 (by decide) (fun c_537 => ?_) (fun c_537 => ?_)
      · have fc_537 := eq_f c_537
        have b_538 : bd 2000 (-1) r_496 := eqX fc_537 b_535 kb_m1 (by decide)
        exact bd_no b_538 (by decide)
      · have fc_537 := neq_f c_537
        refine lv_iconst (v := 1) hx hb dX14_readName_83 (by decide) ?_
        refine lv_goto (tgt := 88) hx hb dX14_readName_84 (by decide) ?_
        refine lv_iconst (v := 2) hx hb dX14_readName_88 (by decide) ?_
        refine lv_iload_n hx hb dX14_readName_89 rfl (lv_at hl 4 rfl) ?_
        have kb_1 : bd 1 1 (1 : Int32) := ⟨by decide, by decide⟩
        have go_ := g
        refine g_callEv (As := [.int 1, .int 2, .int x_2]) (rest := []) ⟨hx, hb, hml, hown, hts⟩ (r_X14_need_3 l dC dI L kd tys fr_496 H.size g.2.2.2.1 a0_ ma0_ ka0_ 1 kb_1 2 x_2) (cwV 3 hts (gV_ t_2403 t_2405 t_100 t_198 t_2406) rfl rfl rfl (by decide +kernel) ⟨(show 0 + 1 ≤ N + 1 + 24 by omega), (show 8 + (4 + 11) + 0 ≤ 60 * (N + 1) + 700 by omega)⟩) (pre3V g hK ma0_ ka0_ (by decide) (q := (RX14, TX14, 67)) rfl) rfl hl.1 rfl (lv_room (Nat.le_of_ble_eq_true rfl)) dX14_readName_90 (cl_f hck_0) g hK (by decide) (by decide) (fx' := [(14, 10, a0_, .int x_8), (14, 2, a0_, .ref q0_), (14, 16, a0_, .int o_), (14, 25, a0_, .int op_)]) rfl (fun xr_539 fr_539 H locs mxr_539 kxr_539 hp hMr_539 g => ?_) (fun fr_539 H locs hp hMr_539 g => ?_)
        · have hG_540 := isV.frame hMr_539 go_.2.2.2.1 mq0_ kq0_ (by decide) (by decide) hG_498
          have hG_541 := FR.frame hMr_539 go_.2.2.2.1 mq0_ kq0_ (by decide) (by decide) hG_499
          have hG_542 := isN.frame hMr_539 go_.2.2.2.1 ma0_ ka0_ (by decide) (by decide) hG_500
          have hG_543 := cEq.frame hMr_539 go_.2.2.2.1 ma0_ ka0_ (by decide) (by decide) hG_501
          exact hp.elim
        · have hG_544 := isV.frame hMr_539 go_.2.2.2.1 mq0_ kq0_ (by decide) (by decide) hG_498
          have hG_545 := FR.frame hMr_539 go_.2.2.2.1 mq0_ kq0_ (by decide) (by decide) hG_499
          have hG_546 := isN.frame hMr_539 go_.2.2.2.1 ma0_ ka0_ (by decide) (by decide) hG_500
          have hG_547 := cEq.frame hMr_539 go_.2.2.2.1 ma0_ ka0_ (by decide) (by decide) hG_501
          have hl9 := lv_sub hl [0, 1, 2, 3, 4, 5, 6, 7] (by rfl : lv_pick [(9, .int 0), (8, .int t_), (6, .long x_4), (4, .long x_3), (3, .int x_2), (0, .ref a0_), (1, .int x1_), (2, .int x2_)] [0, 1, 2, 3, 4, 5, 6, 7] = [(9, .int 0), (8, .int t_), (6, .long x_4), (4, .long x_3), (3, .int x_2), (0, .ref a0_), (1, .int x1_), (2, .int x2_)])
          have g9 := g.sub (fx' := [(14, 10, a0_, .int x_8), (14, 2, a0_, .ref q0_), (14, 16, a0_, .int o_), (14, 25, a0_, .int op_)]) [0, 1, 2, 3] rfl
          exact join_25  _ _ _ _  g9 hG_544 hG_545 hG_546 hG_547 hd_503 hl9
  · have hG_548 := isV.frame hMr_15 go_.2.2.2.1 mq0_ kq0_ (by decide) (by decide) hG_11
    have hG_549 := FR.frame hMr_15 go_.2.2.2.1 mq0_ kq0_ (by decide) (by decide) hG_12
    have hG_550 := isN.frame hMr_15 go_.2.2.2.1 ma0_ ka0_ (by decide) (by decide) hG_13
    have hG_551 := cEq.frame hMr_15 go_.2.2.2.1 ma0_ ka0_ (by decide) (by decide) hE_14
    obtain rfl : r_15 = 1 := h_17
    have g := g.more hF_20
    refine lv_if_eq (tgt := 44) hx hb dX14_readName_33 (by decide) (fun c_ => absurd c_ (by decide)) (fun c_ => ?_)
    refine lv_iload_n hx hb dX14_readName_36 rfl (lv_at hl 6 rfl) ?_
    have kb_0 : bd 0 0 (0 : Int32) := ⟨by decide, by decide⟩
    refine lv_if_ne (tgt := 44) hx hb dX14_readName_37 (by decide) (fun c_552 => ?_) (fun c_552 => ?_)
    · have fc_552 := neq_f c_552
      have b_553 : bd 1 1 x2_ := neX fc_552 bx2_ kb_0 (by decide)
      refine lv_iconst (v := 0) hx hb dX14_readName_44 (by decide) ?_
      refine lv_istore (lv' := [(9, .int 0), (8, .int t_), (6, .long x_4), (4, .long x_3), (3, .int x_2), (0, .ref a0_), (1, .int x1_), (2, .int x2_)]) hx hb dX14_readName_45 hl (by decide) rfl (fun ls hl => ?_)
      have join_554 : ∀ (f : Nat → va_E) (H : Heap) (locs : List Loc) (ls : Array Slot), G3 (dC, dI) L kd tys s f0 [(12, 57), (12, 58), (14, 6), (14, 7), (14, 8), (14, 9), (14, 10), (14, 11), (14, 12), (14, 13), (14, 14), (14, 15), (14, 25)] [180, 201, 202, 203, 204, 205, 206, 207, 208, 209, 210] f H locs [(14, 6, a0_, .int x_18), (14, 10, a0_, .int x_8), (14, 2, a0_, .ref q0_), (14, 16, a0_, .int o_), (14, 25, a0_, .int op_)] → isV f q0_ V_ → FR L kd f0 f q0_ → isN f a0_ N_ → cEq f a0_ E_14 → (nmd N_ V_ o_.toNatClampNeg x_3 x_4) → lv_has ls 11 [(9, .int 0), (8, .int t_), (6, .long x_4), (4, .long x_3), (3, .int x_2), (0, .ref a0_), (1, .int x1_), (2, .int x2_)] → W p l e ({ frames := (N + 1) + 24, cells := K_, slots := 3 * K_, locals := 60 * (N + 1) + 700 } : Room) s m [.ref a0_, .int x1_, .int x2_].toArray below meth c H locs cl_0 (3 * cl_0) Q (F0 m 93 ls []) := by
        intro  f H locs ls  g hJ93_V_q0_ hJ93_F_q0_ hJ93_N_a0_ hJ93_C_a0_ hd93 hl
        refine lv_aload_n hx hb dX14_readName_93 rfl (lv_at hl 5 rfl) ?_
        refine lv_iload_n hx hb dX14_readName_94 rfl (lv_at hl 6 rfl) ?_
        refine lv_if_eq (tgt := 119) hx hb dX14_readName_95 (by decide) (fun c_555 => ?_) (fun c_555 => ?_)
        · have fc_555 := eq_f c_555
          have b_556 : bd 0 0 x1_ := eqX fc_555 bx1_ kb_0 (by decide)
          refine lv_aload_n hx hb dX14_readName_119 rfl (lv_at hl 5 rfl) ?_
          refine g_getk (C := RX14) (T := TX14) (N := 67) hx hb hts (mc_ inX14) hown hK g rfl 2 (by decide) rfl (hts _ (List.mem_cons_of_mem _ t_2148)) (fun _ h9 => h9) 2 rfl dX14_readName_120 ?_
          refine g_getr (K := 180) (C := RX12) (T := TX12) (N := 60) hx hb hts (mc_ inX12) hown hK g mq0_ kq0_ (by decide) rfl 24 (by decide) rfl (hts _ (List.mem_cons_of_mem _ t_1954)) (fun _ h9 => h9) rfl dX14_readName_123 (fun a_557 ma_557 ka_557 g => ?_)
          refine lv_aload_n hx hb dX14_readName_126 rfl (lv_at hl 5 rfl) ?_
          refine g_geti (C := RX14) (T := TX14) (N := 67) hx hb hts (mc_ inX14) hown hK g ma0_ ka0_ (by decide) rfl 17 (by decide) rfl (hts _ (List.mem_cons_of_mem _ t_2163)) (fun _ h9 => h9) rfl dX14_readName_127 (fun x_558 bx_558 g => ?_)
          refine g_iald hx hb hK g ma_557 ka_557 (by decide) rfl (in_bd bx_558 (by decide)) dX14_readName_130 (fun x_559 bx_559 cx_559 => ?_)
          have vx_559 : x_559 = V_.i 24 x_558.toNatClampNeg := hJ93_V_q0_.at g 1 rfl rfl cx_559
          refine lv_bipush (v := 40) hx hb dX14_readName_131 (by decide) ?_
          have kb_40 : bd 40 40 (40 : Int32) := ⟨by decide, by decide⟩
          refine lv_icmp_ge (tgt := 140) hx hb dX14_readName_133 (by decide) (fun c_560 => ?_) (fun c_560 => ?_)
          · have fc_560 := le_f c_560
            have b_561 : bd 40 40 x_559 := leR fc_560 kb_40 bx_559 (by decide)
            refine lv_iconst (v := 0) hx hb dX14_readName_140 (by decide) ?_
            refine lv_iconst (v := 4) hx hb dX14_readName_141 (by decide) ?_
            refine lv_iload_n hx hb dX14_readName_142 rfl (lv_at hl 4 rfl) ?_
            have hs_562 := sE_1 g 2 rfl (by have h9_0 := bo_; unfold bd at h9_0; have h9_1 := bop_; unfold bd at h9_1; have h9_2 := bso_; unfold bd at h9_2; have h9_3 := bt_; unfold bd at h9_3; have h9_4 := b_556; unfold bd at h9_4; have h9_5 := b_553; unfold bd at h9_5; have h9_6 := h_19; unfold bd at h9_6; have h9_7 := bx_2; unfold bd at h9_7; have h9_8 := bx_558; unfold bd at h9_8; have h9_9 := b_561; unfold bd at h9_9; have h9_10 := h_9; unfold bd at h9_10; have h8_0 := kb_0; unfold bd at h8_0; have h8_1 := kb_40; unfold bd at h8_1; omega)
            have go_ := g
            refine g_callEv (As := [.int 0, .int 4, .int x_2]) (rest := []) ⟨hx, hb, hml, hown, hts⟩ (r_X14_need_2 l dC dI L kd tys f H.size g.2.2.2.1 a0_ ma0_ ka0_ 0 kb_0 4 x_2) (cwV 3 hts (gV_ t_2403 t_2405 t_100 t_198 t_2406) rfl rfl rfl (by decide +kernel) ⟨(show 1 + 1 ≤ N + 1 + 24 by omega), (show 8 + (4 + 11) + 22 ≤ 60 * (N + 1) + 700 by omega)⟩) (pre3V g hK ma0_ ka0_ (by decide) (q := (RX14, TX14, 67)) rfl) rfl hl.1 rfl (lv_room (Nat.le_of_ble_eq_true rfl)) dX14_readName_143 (cl_f hck_0) g hK (by decide) (by decide) (fx' := [(14, 17, a0_, .int x_558), (12, 24, q0_, .ref a_557), (14, 6, a0_, .int x_18), (14, 10, a0_, .int x_8), (14, 2, a0_, .ref q0_), (14, 16, a0_, .int o_), (14, 25, a0_, .int op_)]) rfl (fun xr_563 fr_563 H locs mxr_563 kxr_563 hp hMr_563 g => ?_) (fun fr_563 H locs hp hMr_563 g => ?_)
            · have hG_564 := isV.frame hMr_563 go_.2.2.2.1 mq0_ kq0_ (by decide) (by decide) hJ93_V_q0_
              have hG_565 := FR.frame hMr_563 go_.2.2.2.1 mq0_ kq0_ (by decide) (by decide) hJ93_F_q0_
              have hG_566 := isN.frame hMr_563 go_.2.2.2.1 ma0_ ka0_ (by decide) (by decide) hJ93_N_a0_
              have hG_567 := cEq.frame hMr_563 go_.2.2.2.1 ma0_ ka0_ (by decide) (by decide) hJ93_C_a0_
              subst hQ
              exact leavesX hempty hlocks (fun t ht hW => g_thrX g hK mxr_563 kxr_563 (by omega) ht hW) g.2.2.1.2.2
            · exact hp.elim
          · have fc_560 := nle_f c_560
            have b_568 : bd 0 39 x_559 := ltL fc_560 bx_559 kb_40 (by decide)
            refine lv_iconst (v := 1) hx hb dX14_readName_136 (by decide) ?_
            refine lv_goto (tgt := 141) hx hb dX14_readName_137 (by decide) ?_
            refine lv_iconst (v := 4) hx hb dX14_readName_141 (by decide) ?_
            refine lv_iload_n hx hb dX14_readName_142 rfl (lv_at hl 4 rfl) ?_
            have hs_569 := sE_1 g 2 rfl (by have h9_0 := bo_; unfold bd at h9_0; have h9_1 := bop_; unfold bd at h9_1; have h9_2 := bso_; unfold bd at h9_2; have h9_3 := bt_; unfold bd at h9_3; have h9_4 := b_556; unfold bd at h9_4; have h9_5 := b_553; unfold bd at h9_5; have h9_6 := h_19; unfold bd at h9_6; have h9_7 := bx_2; unfold bd at h9_7; have h9_8 := bx_558; unfold bd at h9_8; have h9_9 := b_568; unfold bd at h9_9; have h9_10 := h_9; unfold bd at h9_10; have h8_0 := kb_0; unfold bd at h8_0; have h8_1 := kb_40; unfold bd at h8_1; omega)
            have kb_1 : bd 1 1 (1 : Int32) := ⟨by decide, by decide⟩
            have go_ := g
            refine g_callEv (As := [.int 1, .int 4, .int x_2]) (rest := []) ⟨hx, hb, hml, hown, hts⟩ (r_X14_need_3 l dC dI L kd tys f H.size g.2.2.2.1 a0_ ma0_ ka0_ 1 kb_1 4 x_2) (cwV 3 hts (gV_ t_2403 t_2405 t_100 t_198 t_2406) rfl rfl rfl (by decide +kernel) ⟨(show 0 + 1 ≤ N + 1 + 24 by omega), (show 8 + (4 + 11) + 0 ≤ 60 * (N + 1) + 700 by omega)⟩) (pre3V g hK ma0_ ka0_ (by decide) (q := (RX14, TX14, 67)) rfl) rfl hl.1 rfl (lv_room (Nat.le_of_ble_eq_true rfl)) dX14_readName_143 (cl_f hck_0) g hK (by decide) (by decide) (fx' := [(14, 17, a0_, .int x_558), (12, 24, q0_, .ref a_557), (14, 6, a0_, .int x_18), (14, 10, a0_, .int x_8), (14, 2, a0_, .ref q0_), (14, 16, a0_, .int o_), (14, 25, a0_, .int op_)]) rfl (fun xr_570 fr_570 H locs mxr_570 kxr_570 hp hMr_570 g => ?_) (fun fr_570 H locs hp hMr_570 g => ?_)
            · have hG_571 := isV.frame hMr_570 go_.2.2.2.1 mq0_ kq0_ (by decide) (by decide) hJ93_V_q0_
              have hG_572 := FR.frame hMr_570 go_.2.2.2.1 mq0_ kq0_ (by decide) (by decide) hJ93_F_q0_
              have hG_573 := isN.frame hMr_570 go_.2.2.2.1 ma0_ ka0_ (by decide) (by decide) hJ93_N_a0_
              have hG_574 := cEq.frame hMr_570 go_.2.2.2.1 ma0_ ka0_ (by decide) (by decide) hJ93_C_a0_
              exact hp.elim
            · have hG_575 := isV.frame hMr_570 go_.2.2.2.1 mq0_ kq0_ (by decide) (by decide) hJ93_V_q0_
              have hG_576 := FR.frame hMr_570 go_.2.2.2.1 mq0_ kq0_ (by decide) (by decide) hJ93_F_q0_
              have hG_577 := isN.frame hMr_570 go_.2.2.2.1 ma0_ ka0_ (by decide) (by decide) hJ93_N_a0_
              have hG_578 := cEq.frame hMr_570 go_.2.2.2.1 ma0_ ka0_ (by decide) (by decide) hJ93_C_a0_
              refine lv_aload_n hx hb dX14_readName_146 rfl (lv_at hl 5 rfl) ?_
              refine lv_iload hx hb dX14_readName_147 (lv_at hl 1 rfl) ?_
              refine lv_sipush (v := 1200) hx hb dX14_readName_149 (by decide) ?_
              have kb_1200 : bd 1200 1200 (1200 : Int32) := ⟨by decide, by decide⟩
              refine lv_icmp_gt (tgt := 159) hx hb dX14_readName_152 (by decide) (fun c_579 => ?_) (fun c_579 => ?_)
              · have fc_579 := lt_f c_579
                have b_580 : bd 1201 1201 t_ := ltR fc_579 kb_1200 bt_ (by decide)
                refine lv_iconst (v := 0) hx hb dX14_readName_159 (by decide) ?_
                refine lv_iconst (v := 4) hx hb dX14_readName_160 (by decide) ?_
                refine lv_iload_n hx hb dX14_readName_161 rfl (lv_at hl 4 rfl) ?_
                have hs_581 := sE_1 g 2 rfl (by have h9_0 := bo_; unfold bd at h9_0; have h9_1 := bop_; unfold bd at h9_1; have h9_2 := bso_; unfold bd at h9_2; have h9_3 := b_580; unfold bd at h9_3; have h9_4 := b_556; unfold bd at h9_4; have h9_5 := b_553; unfold bd at h9_5; have h9_6 := h_19; unfold bd at h9_6; have h9_7 := bx_2; unfold bd at h9_7; have h9_8 := bx_558; unfold bd at h9_8; have h9_9 := b_568; unfold bd at h9_9; have h9_10 := h_9; unfold bd at h9_10; have h8_0 := kb_0; unfold bd at h8_0; have h8_1 := kb_1; unfold bd at h8_1; have h8_2 := kb_1200; unfold bd at h8_2; have h8_3 := kb_40; unfold bd at h8_3; omega)
                have go_ := g
                refine g_callEv (As := [.int 0, .int 4, .int x_2]) (rest := []) ⟨hx, hb, hml, hown, hts⟩ (r_X14_need_2 l dC dI L kd tys fr_570 H.size g.2.2.2.1 a0_ ma0_ ka0_ 0 kb_0 4 x_2) (cwV 3 hts (gV_ t_2403 t_2405 t_100 t_198 t_2406) rfl rfl rfl (by decide +kernel) ⟨(show 1 + 1 ≤ N + 1 + 24 by omega), (show 8 + (4 + 11) + 22 ≤ 60 * (N + 1) + 700 by omega)⟩) (pre3V g hK ma0_ ka0_ (by decide) (q := (RX14, TX14, 67)) rfl) rfl hl.1 rfl (lv_room (Nat.le_of_ble_eq_true rfl)) dX14_readName_162 (cl_f hck_0) g hK (by decide) (by decide) (fx' := [(14, 17, a0_, .int x_558), (12, 24, q0_, .ref a_557), (14, 6, a0_, .int x_18), (14, 10, a0_, .int x_8), (14, 2, a0_, .ref q0_), (14, 16, a0_, .int o_), (14, 25, a0_, .int op_)]) rfl (fun xr_582 fr_582 H locs mxr_582 kxr_582 hp hMr_582 g => ?_) (fun fr_582 H locs hp hMr_582 g => ?_)
                · have hG_583 := isV.frame hMr_582 go_.2.2.2.1 mq0_ kq0_ (by decide) (by decide) hG_575
                  have hG_584 := FR.frame hMr_582 go_.2.2.2.1 mq0_ kq0_ (by decide) (by decide) hG_576
                  have hG_585 := isN.frame hMr_582 go_.2.2.2.1 ma0_ ka0_ (by decide) (by decide) hG_577
                  have hG_586 := cEq.frame hMr_582 go_.2.2.2.1 ma0_ ka0_ (by decide) (by decide) hG_578
                  subst hQ
                  exact leavesX hempty hlocks (fun t ht hW => g_thrX g hK mxr_582 kxr_582 (by omega) ht hW) g.2.2.1.2.2
                · exact hp.elim
              · have fc_579 := nlt_f c_579
                have b_587 : bd 0 1200 t_ := leL fc_579 bt_ kb_1200 (by decide)
                refine lv_iconst (v := 1) hx hb dX14_readName_155 (by decide) ?_
                refine lv_goto (tgt := 160) hx hb dX14_readName_156 (by decide) ?_
                refine lv_iconst (v := 4) hx hb dX14_readName_160 (by decide) ?_
                refine lv_iload_n hx hb dX14_readName_161 rfl (lv_at hl 4 rfl) ?_
                have hs_588 := sE_1 g 2 rfl (by have h9_0 := bo_; unfold bd at h9_0; have h9_1 := bop_; unfold bd at h9_1; have h9_2 := bso_; unfold bd at h9_2; have h9_3 := b_587; unfold bd at h9_3; have h9_4 := b_556; unfold bd at h9_4; have h9_5 := b_553; unfold bd at h9_5; have h9_6 := h_19; unfold bd at h9_6; have h9_7 := bx_2; unfold bd at h9_7; have h9_8 := bx_558; unfold bd at h9_8; have h9_9 := b_568; unfold bd at h9_9; have h9_10 := h_9; unfold bd at h9_10; have h8_0 := kb_0; unfold bd at h8_0; have h8_1 := kb_1; unfold bd at h8_1; have h8_2 := kb_1200; unfold bd at h8_2; have h8_3 := kb_40; unfold bd at h8_3; omega)
                have go_ := g
                refine g_callEv (As := [.int 1, .int 4, .int x_2]) (rest := []) ⟨hx, hb, hml, hown, hts⟩ (r_X14_need_3 l dC dI L kd tys fr_570 H.size g.2.2.2.1 a0_ ma0_ ka0_ 1 kb_1 4 x_2) (cwV 3 hts (gV_ t_2403 t_2405 t_100 t_198 t_2406) rfl rfl rfl (by decide +kernel) ⟨(show 0 + 1 ≤ N + 1 + 24 by omega), (show 8 + (4 + 11) + 0 ≤ 60 * (N + 1) + 700 by omega)⟩) (pre3V g hK ma0_ ka0_ (by decide) (q := (RX14, TX14, 67)) rfl) rfl hl.1 rfl (lv_room (Nat.le_of_ble_eq_true rfl)) dX14_readName_162 (cl_f hck_0) g hK (by decide) (by decide) (fx' := [(14, 17, a0_, .int x_558), (12, 24, q0_, .ref a_557), (14, 6, a0_, .int x_18), (14, 10, a0_, .int x_8), (14, 2, a0_, .ref q0_), (14, 16, a0_, .int o_), (14, 25, a0_, .int op_)]) rfl (fun xr_589 fr_589 H locs mxr_589 kxr_589 hp hMr_589 g => ?_) (fun fr_589 H locs hp hMr_589 g => ?_)
                · have hG_590 := isV.frame hMr_589 go_.2.2.2.1 mq0_ kq0_ (by decide) (by decide) hG_575
                  have hG_591 := FR.frame hMr_589 go_.2.2.2.1 mq0_ kq0_ (by decide) (by decide) hG_576
                  have hG_592 := isN.frame hMr_589 go_.2.2.2.1 ma0_ ka0_ (by decide) (by decide) hG_577
                  have hG_593 := cEq.frame hMr_589 go_.2.2.2.1 ma0_ ka0_ (by decide) (by decide) hG_578
                  exact hp.elim
                · have hG_594 := isV.frame hMr_589 go_.2.2.2.1 mq0_ kq0_ (by decide) (by decide) hG_575
                  have hG_595 := FR.frame hMr_589 go_.2.2.2.1 mq0_ kq0_ (by decide) (by decide) hG_576
                  have hG_596 := isN.frame hMr_589 go_.2.2.2.1 ma0_ ka0_ (by decide) (by decide) hG_577
                  have hG_597 := cEq.frame hMr_589 go_.2.2.2.1 ma0_ ka0_ (by decide) (by decide) hG_578
                  refine lv_iload_n hx hb dX14_readName_165 rfl (lv_at hl 6 rfl) ?_
                  refine lv_if_eq (tgt := 185) hx hb dX14_readName_166 (by decide) (fun c_598 => ?_) (fun c_598 => ?_)
                  · have fc_598 := eq_f c_598
                    refine lv_aload_n hx hb dX14_readName_185 rfl (lv_at hl 5 rfl) ?_
                    refine g_getk (C := RX14) (T := TX14) (N := 67) hx hb hts (mc_ inX14) hown hK g rfl 2 (by decide) rfl (hts _ (List.mem_cons_of_mem _ t_2148)) (fun _ h9 => h9) 4 rfl dX14_readName_186 ?_
                    refine g_getk (C := RX12) (T := TX12) (N := 60) hx hb hts (mc_ inX12) hown hK g rfl 24 (by decide) rfl (hts _ (List.mem_cons_of_mem _ t_1954)) (fun _ h9 => h9) 1 rfl dX14_readName_189 ?_
                    refine lv_aload_n hx hb dX14_readName_192 rfl (lv_at hl 5 rfl) ?_
                    refine g_getk (C := RX14) (T := TX14) (N := 67) hx hb hts (mc_ inX14) hown hK g rfl 17 (by decide) rfl (hts _ (List.mem_cons_of_mem _ t_2163)) (fun _ h9 => h9) 0 rfl dX14_readName_193 ?_
                    refine lv_dup2_11 hx hb dX14_readName_196 rfl rfl ?_
                    refine g_iald hx hb hK g ma_557 ka_557 (by decide) rfl (in_bd bx_558 (by decide)) dX14_readName_197 (fun x_599 bx_599 cx_599 => ?_)
                    obtain rfl : x_559 = x_599 := el_same cx_559 cx_599 ((arr_eq hMr_589 ma_557 ka_557 (by decide) rfl).trans (arr_eq hMr_570 ma_557 ka_557 (by decide) rfl))
                    refine lv_iconst (v := 1) hx hb dX14_readName_198 (by decide) ?_
                    refine lv_iadd hx hb dX14_readName_199 ?_
                    refine lv_topi (fun y_600 ey_600 => ?_)
                    have ty_600 := add_bd ey_600 b_568 kb_1 (by decide)
                    have b_601 : bd 1 40 y_600 := add_rg ty_600 b_568 kb_1 (by decide)
                    have gp_602 := g
                    have go_ := g
                    refine g_iastX hx hb hK g ma_557 ka_557 (by decide) rfl (in_bd bx_558 (by decide)) (bd_sub b_601 (by decide)) (by decide) dX14_readName_200 (fun f H locs hM_603 u_606 g => ?_)
                    have hG_604 := isN.frame hM_603 go_.2.2.2.1 ma0_ ka0_ (by decide) (by decide) hG_596
                    have hG_605 := cEq.frame hM_603 go_.2.2.2.1 ma0_ ka0_ (by decide) (by decide) hG_597
                    have hV_607 := isV.ui hG_594 gp_602 1 rfl mq0_ kq0_ rfl u_606
                    have hF_608 := FR.arr hG_595 gp_602 1 rfl mq0_ kq0_ rfl rfl u_606.1
                    obtain ⟨V_609, hV_610, hX_611, hw_612, hn_613⟩ : ∃ V1 : PV, isV f q0_ V1 ∧ exN V_ V1 ∧ wfN V1 (V1.n 57).toInt ∧ (V1.n 57).toInt = (V_.n 57).toInt := ⟨_, hV_607, u24_ok hwf⟩
                    have hx_614 := exN.tr exN.rf hX_611
                    have hd_615 := nmd_ex hX_611 hd93
                    refine lv_iload hx hb dX14_readName_201 (lv_at hl 0 rfl) ?_
                    refine lv_if_eq (tgt := 275) hx hb dX14_readName_203 (by decide) (fun c_ => ?_) (fun c_ => absurd (by decide) c_)
                    refine lv_aload_n hx hb dX14_readName_275 rfl (lv_at hl 5 rfl) ?_
                    refine lv_lload hx hb dX14_readName_276 (lv_at hl 3 rfl) ?_
                    refine lv_lload hx hb dX14_readName_278 (lv_at hl 2 rfl) ?_
                    have hs_616 := sE_1 g 2 rfl (by have h9_0 := bo_; unfold bd at h9_0; have h9_1 := bop_; unfold bd at h9_1; have h9_2 := bso_; unfold bd at h9_2; have h9_3 := b_587; unfold bd at h9_3; have h9_4 := b_556; unfold bd at h9_4; have h9_5 := b_553; unfold bd at h9_5; have h9_6 := h_19; unfold bd at h9_6; have h9_7 := bx_2; unfold bd at h9_7; have h9_8 := bx_558; unfold bd at h9_8; have h9_9 := b_568; unfold bd at h9_9; have h9_10 := bx_599; unfold bd at h9_10; have h9_11 := h_9; unfold bd at h9_11; have h9_12 := b_601; unfold bd at h9_12; have h8_0 := kb_0; unfold bd at h8_0; have h8_1 := kb_1; unfold bd at h8_1; have h8_2 := kb_1200; unfold bd at h8_2; have h8_3 := kb_40; unfold bd at h8_3; omega)
                    have go_ := g
                    refine g_calli (va_runV (As := [.long x_3, .long x_4]) (rest := []) ⟨hx, hb, hml, hown, hts⟩ (r_X14_named_2 l dC dI L kd tys f H.size g.2.2.2.1 a0_ ma0_ ka0_ x_3 x_4 q0_ mq0_ kq0_ o_ bo_ V_609 N_ hG_604 hV_610 (g.fcts [4, 5] rfl)) (cwV 2 hts (gV_ t_2504 t_2506 t_122 t_198 t_2507) rfl rfl rfl (by decide +kernel) ⟨(show 1 + 1 ≤ N + 1 + 24 by omega), (show 8 + (6 + 11) + 26 ≤ 60 * (N + 1) + 700 by omega)⟩) (pre3V g hK ma0_ ka0_ (by decide) (q := (RX14, TX14, 67)) rfl) rfl rfl hl.1 rfl (lv_room (Nat.le_of_ble_eq_true rfl)) dX14_readName_280 (cl_f hck_0)) g hK (by decide) (by decide) (fx' := [(14, 17, a0_, .int x_558), (12, 24, q0_, .ref a_557), (14, 6, a0_, .int x_18), (14, 10, a0_, .int x_8), (14, 2, a0_, .ref q0_), (14, 16, a0_, .int o_), (14, 25, a0_, .int op_)]) rfl (fun r_617 fr_617 H locs hp hMr_617 g => ?_)
                    obtain ⟨hx_618, -⟩ := hp
                    have hG_619 := isN.frame hMr_617 go_.2.2.2.1 ma0_ ka0_ (by decide) (by decide) hG_604
                    have hG_620 := cEq.frame hMr_617 go_.2.2.2.1 ma0_ ka0_ (by decide) (by decide) hG_605
                    have hG_621 := isV.frame hMr_617 go_.2.2.2.1 mq0_ kq0_ (by decide) (by decide) hV_610
                    have hG_622 := FR.frame hMr_617 go_.2.2.2.1 mq0_ kq0_ (by decide) (by decide) hF_608
                    rcases hx_618 with ⟨h_623, hd_624⟩ | ⟨h_623 | h_623 | h_623, hd_624⟩
                    · obtain rfl : r_617 = (-1) := Int32.toInt_inj.mp (h_623.trans (by decide))
                      exact absurd hd_615 hd_624
                    · have b_625 : bd 0 9 r_617 := ⟨h_623.1, h_623.2.1⟩
                      have hv_626 : varOK V_609 r_617 o_.toNatClampNeg := Or.inl h_623
                      refine lv_istore (lv' := [(10, .int r_617), (9, .int 0), (8, .int t_), (6, .long x_4), (4, .long x_3), (3, .int x_2), (0, .ref a0_), (1, .int x1_), (2, .int x2_)]) hx hb dX14_readName_283 hl (by decide) rfl (fun ls hl => ?_)
                      refine lv_aload_n hx hb dX14_readName_285 rfl (lv_at hl 6 rfl) ?_
                      refine lv_iload_n hx hb dX14_readName_286 rfl (lv_at hl 8 rfl) ?_
                      refine lv_if_eq (tgt := 298) hx hb dX14_readName_287 (by decide) (fun c_627 => ?_) (fun c_627 => ?_)
                      · have fc_627 := eq_f c_627
                        exact absurd fc_627 fc_552
                      · have fc_627 := neq_f c_627
                        refine lv_iload hx hb dX14_readName_290 (lv_at hl 0 rfl) ?_
                        refine lv_sipush (v := 1000) hx hb dX14_readName_292 (by decide) ?_
                        have kb_1000 : bd 1000 1000 (1000 : Int32) := ⟨by decide, by decide⟩
                        refine lv_icmp_ge (tgt := 302) hx hb dX14_readName_295 (by decide) (fun c_628 => ?_) (fun c_628 => ?_)
                        · have fc_628 := le_f c_628
                          have b_629 : bd 1000 9 (1000 : Int32) := leL fc_628 kb_1000 b_625 (by decide)
                          exact bd_no (eqX rfl b_629 kb_1000 (lo := 1000) (hi := 9) (by decide)) (by decide)
                        · have fc_628 := nle_f c_628
                          refine lv_iconst (v := 1) hx hb dX14_readName_298 (by decide) ?_
                          refine lv_goto (tgt := 303) hx hb dX14_readName_299 (by decide) ?_
                          refine lv_iconst (v := 5) hx hb dX14_readName_303 (by decide) ?_
                          refine lv_iload_n hx hb dX14_readName_304 rfl (lv_at hl 5 rfl) ?_
                          have hs_630 := sE_1 g 2 rfl (by have h9_0 := bo_; unfold bd at h9_0; have h9_1 := bop_; unfold bd at h9_1; have h9_2 := b_625; unfold bd at h9_2; have h9_3 := bso_; unfold bd at h9_3; have h9_4 := b_587; unfold bd at h9_4; have h9_5 := b_556; unfold bd at h9_5; have h9_6 := b_553; unfold bd at h9_6; have h9_7 := h_19; unfold bd at h9_7; have h9_8 := bx_2; unfold bd at h9_8; have h9_9 := bx_558; unfold bd at h9_9; have h9_10 := b_568; unfold bd at h9_10; have h9_11 := bx_599; unfold bd at h9_11; have h9_12 := h_9; unfold bd at h9_12; have h9_13 := b_601; unfold bd at h9_13; have h8_0 := kb_0; unfold bd at h8_0; have h8_1 := kb_1; unfold bd at h8_1; have h8_2 := kb_1000; unfold bd at h8_2; have h8_3 := kb_1200; unfold bd at h8_3; have h8_4 := kb_40; unfold bd at h8_4; omega)
                          have go_ := g
                          refine g_callEv (As := [.int 1, .int 5, .int x_2]) (rest := []) ⟨hx, hb, hml, hown, hts⟩ (r_X14_need_3 l dC dI L kd tys fr_617 H.size g.2.2.2.1 a0_ ma0_ ka0_ 1 kb_1 5 x_2) (cwV 3 hts (gV_ t_2403 t_2405 t_100 t_198 t_2406) rfl rfl rfl (by decide +kernel) ⟨(show 0 + 1 ≤ N + 1 + 24 by omega), (show 8 + (4 + 11) + 0 ≤ 60 * (N + 1) + 700 by omega)⟩) (pre3V g hK ma0_ ka0_ (by decide) (q := (RX14, TX14, 67)) rfl) rfl hl.1 rfl (lv_room (Nat.le_of_ble_eq_true rfl)) dX14_readName_305 (cl_f hck_0) g hK (by decide) (by decide) (fx' := [(14, 17, a0_, .int x_558), (12, 24, q0_, .ref a_557), (14, 6, a0_, .int x_18), (14, 10, a0_, .int x_8), (14, 2, a0_, .ref q0_), (14, 16, a0_, .int o_), (14, 25, a0_, .int op_)]) rfl (fun xr_631 fr_631 H locs mxr_631 kxr_631 hp hMr_631 g => ?_) (fun fr_631 H locs hp hMr_631 g => ?_)
                          · have hG_632 := isN.frame hMr_631 go_.2.2.2.1 ma0_ ka0_ (by decide) (by decide) hG_619
                            have hG_633 := cEq.frame hMr_631 go_.2.2.2.1 ma0_ ka0_ (by decide) (by decide) hG_620
                            have hG_634 := isV.frame hMr_631 go_.2.2.2.1 mq0_ kq0_ (by decide) (by decide) hG_621
                            have hG_635 := FR.frame hMr_631 go_.2.2.2.1 mq0_ kq0_ (by decide) (by decide) hG_622
                            exact hp.elim
                          · have hG_636 := isN.frame hMr_631 go_.2.2.2.1 ma0_ ka0_ (by decide) (by decide) hG_619
                            have hG_637 := cEq.frame hMr_631 go_.2.2.2.1 ma0_ ka0_ (by decide) (by decide) hG_620
                            have hG_638 := isV.frame hMr_631 go_.2.2.2.1 mq0_ kq0_ (by decide) (by decide) hG_621
                            have hG_639 := FR.frame hMr_631 go_.2.2.2.1 mq0_ kq0_ (by decide) (by decide) hG_622
                            refine lv_aload_n hx hb dX14_readName_308 rfl (lv_at hl 6 rfl) ?_
                            refine lv_iload hx hb dX14_readName_309 (lv_at hl 0 rfl) ?_
                            refine lv_iload_n hx hb dX14_readName_311 rfl (lv_at hl 5 rfl) ?_
                            refine lv_iload_n hx hb dX14_readName_312 rfl (lv_at hl 7 rfl) ?_
                            have qc__640 : cF fr_631 a0_ = _ := hG_637
                            have hs_641 := sE_1 g 2 rfl (by have h9_0 := bo_; unfold bd at h9_0; have h9_1 := bop_; unfold bd at h9_1; have h9_2 := b_625; unfold bd at h9_2; have h9_3 := bso_; unfold bd at h9_3; have h9_4 := b_587; unfold bd at h9_4; have h9_5 := b_556; unfold bd at h9_5; have h9_6 := b_553; unfold bd at h9_6; have h9_7 := h_19; unfold bd at h9_7; have h9_8 := bx_2; unfold bd at h9_8; have h9_9 := bx_558; unfold bd at h9_9; have h9_10 := b_568; unfold bd at h9_10; have h9_11 := bx_599; unfold bd at h9_11; have h9_12 := h_9; unfold bd at h9_12; have h9_13 := b_601; unfold bd at h9_13; have h8_0 := kb_0; unfold bd at h8_0; have h8_1 := kb_1; unfold bd at h8_1; have h8_2 := kb_1000; unfold bd at h8_2; have h8_3 := kb_1200; unfold bd at h8_3; have h8_4 := kb_40; unfold bd at h8_4; omega)
                            have b_642 : bd 0 1201 x_8 := ⟨(by have h9_0 := bo_; unfold bd at h9_0; have h9_1 := bop_; unfold bd at h9_1; have h9_2 := b_625; unfold bd at h9_2; have h9_3 := bso_; unfold bd at h9_3; have h9_4 := b_587; unfold bd at h9_4; have h9_5 := b_556; unfold bd at h9_5; have h9_6 := b_553; unfold bd at h9_6; have h9_7 := h_19; unfold bd at h9_7; have h9_8 := bx_2; unfold bd at h9_8; have h9_9 := bx_558; unfold bd at h9_9; have h9_10 := b_568; unfold bd at h9_10; have h9_11 := bx_599; unfold bd at h9_11; have h9_12 := h_9; unfold bd at h9_12; have h9_13 := b_601; unfold bd at h9_13; have h8_0 := kb_0; unfold bd at h8_0; have h8_1 := kb_1; unfold bd at h8_1; have h8_2 := kb_1000; unfold bd at h8_2; have h8_3 := kb_1200; unfold bd at h8_3; have h8_4 := kb_40; unfold bd at h8_4; omega), (by have h9_0 := bo_; unfold bd at h9_0; have h9_1 := bop_; unfold bd at h9_1; have h9_2 := b_625; unfold bd at h9_2; have h9_3 := bso_; unfold bd at h9_3; have h9_4 := b_587; unfold bd at h9_4; have h9_5 := b_556; unfold bd at h9_5; have h9_6 := b_553; unfold bd at h9_6; have h9_7 := h_19; unfold bd at h9_7; have h9_8 := bx_2; unfold bd at h9_8; have h9_9 := bx_558; unfold bd at h9_9; have h9_10 := b_568; unfold bd at h9_10; have h9_11 := bx_599; unfold bd at h9_11; have h9_12 := h_9; unfold bd at h9_12; have h9_13 := b_601; unfold bd at h9_13; have h8_0 := kb_0; unfold bd at h8_0; have h8_1 := kb_1; unfold bd at h8_1; have h8_2 := kb_1000; unfold bd at h8_2; have h8_3 := kb_1200; unfold bd at h8_3; have h8_4 := kb_40; unfold bd at h8_4; omega)⟩
                            have go_ := g
                            refine g_callXi (As := [.int r_617, .int x_2, .int x1_]) (rest := []) ⟨hx, hb, hml, hown, hts⟩ (ih.2.2.2.2.2.1 l dC dI L kd tys fr_631 H.size g.2.2.2.1 adK adV a0_ ma0_ ka0_ r_617 x_2 x1_ (bd_sub b_556 (by decide)) q0_ mq0_ kq0_ V_609 o_ bo_ op_ bop_ x_8 b_642 hG_638 hw_612 (by rw [hx_614.2.2.1 0 (by decide)]; exact ho) (by omega) hm_ hhm hv_626 (K_ - cl_0) (by omega) (by have h9_0 := bo_; unfold bd at h9_0; have h9_1 := bop_; unfold bd at h9_1; have h9_2 := b_625; unfold bd at h9_2; have h9_3 := bso_; unfold bd at h9_3; have h9_4 := b_587; unfold bd at h9_4; have h9_5 := b_556; unfold bd at h9_5; have h9_6 := b_553; unfold bd at h9_6; have h9_7 := h_19; unfold bd at h9_7; have h9_8 := bx_2; unfold bd at h9_8; have h9_9 := bx_558; unfold bd at h9_9; have h9_10 := b_568; unfold bd at h9_10; have h9_11 := bx_599; unfold bd at h9_11; have h9_12 := b_642; unfold bd at h9_12; have h9_13 := b_601; unfold bd at h9_13; have h8_0 := kb_0; unfold bd at h8_0; have h8_1 := kb_1; unfold bd at h8_1; have h8_2 := kb_1000; unfold bd at h8_2; have h8_3 := kb_1200; unfold bd at h8_3; have h8_4 := kb_40; unfold bd at h8_4; omega) (g.fcts [4, 5, 6, 3] rfl)) (cwV 3 hts (gV_ t_2512 t_2514 t_124 t_198 t_2515) rfl rfl rfl (by decide +kernel) ⟨(show N + 24 + 1 ≤ N + 1 + 24 by omega), (show 8 + (8 + 11) + (60 * N + 700) ≤ 60 * (N + 1) + 700 by omega)⟩) (pre3VA g hK hAm ma0_ ka0_ (by decide) (q := (RX14, TX14, 67)) rfl) rfl hl.1 rfl (lv_room (Nat.le_of_ble_eq_true rfl)) dX14_readName_313 (cl_k (K := K_) (k := K_ - cl_0) (show cl_0 + (K_ - cl_0) ≤ K_ by omega)) g hK (by decide) (by decide) (fx' := [(14, 17, a0_, .int x_558), (12, 24, q0_, .ref a_557), (14, 2, a0_, .ref q0_), (14, 16, a0_, .int o_)]) rfl (fun xr_643 fr_643 H locs kr_643 cr_643 ecr_643 mxr_643 kxr_643 hp hMr_643 g => ?_) (fun r_643 fr_643 H locs kr_643 cr_643 ecr_643 hp hMr_643 g => ?_)
                            · have hG_644 := isN.frame hMr_643 go_.2.2.2.1 ma0_ ka0_ (by decide) (by decide) hG_636
                              subst hQ
                              exact leavesX hempty hlocks (fun t ht hW => g_thrX g hK mxr_643 kxr_643 (by omega) ht hW) g.2.2.1.2.2
                            · obtain ⟨hx_645, x_646, h_647, hF_648⟩ := hp
                              have hG_649 := isN.frame hMr_643 go_.2.2.2.1 ma0_ ka0_ (by decide) (by decide) hG_636
                              obtain ⟨V_650, E_651, hV_652, hF_653, hE_654, hX_655, hw_656, hv_657, hP_658, hn_659, hk_660, hc_661⟩ := rd_use hx_645 hG_637
                              have hF_662 := FR.call (mds := []) (mas := []) hG_639 go_ mq0_ kq0_ rfl hF_653
                              have mxE_651 : E_651 ≤ 1202 := by have h9 := cF_le g ma0_ ka0_; have h8 : cF _ _ = _ := hE_654; omega
                              have hx_663 := exN.tr hx_614 hX_655
                              have hv_664 := exN.var hX_655 hv_626
                              have hd_665 := nmd_ex hX_655 hd_624
                              have hck_666 : cr_643 ≤ K_ := by omega
                              have b_667 : bd 0 2499 r_643 := ⟨hv_657.1, (by have h9 := hv_657.2.1; omega)⟩
                              have g := g.more hF_648
                              have h9c : cF fr_643 a0_ = _ := hE_654
                              subst hQ
                              exact iretX (v := r_643) hx hb hr (fun t ht hW => g_retX g hK ⟨_, rfl, ⟨⟨_, hV_652, hF_662, hx_663, hw_656, hv_657, ⟨Or.inl hP_658, fun _ => hP_658⟩, (by omega), (by omega), (by omega)⟩, x_646, h_647, (g.fcts [0, 1] rfl)⟩⟩ ht hW) g.2.2.1.2.2 dX14_readName_316 hlocks
                    · have b_668 : bd 1000 1002 r_617 := ⟨h_623.1, h_623.2⟩
                      have hv_669 : varOK V_609 r_617 o_.toNatClampNeg := Or.inr (Or.inl h_623)
                      refine lv_istore (lv' := [(10, .int r_617), (9, .int 0), (8, .int t_), (6, .long x_4), (4, .long x_3), (3, .int x_2), (0, .ref a0_), (1, .int x1_), (2, .int x2_)]) hx hb dX14_readName_283 hl (by decide) rfl (fun ls hl => ?_)
                      refine lv_aload_n hx hb dX14_readName_285 rfl (lv_at hl 6 rfl) ?_
                      refine lv_iload_n hx hb dX14_readName_286 rfl (lv_at hl 8 rfl) ?_
                      refine lv_if_eq (tgt := 298) hx hb dX14_readName_287 (by decide) (fun c_670 => ?_) (fun c_670 => ?_)
                      · have fc_670 := eq_f c_670
                        exact absurd fc_670 fc_552
                      · have fc_670 := neq_f c_670
                        refine lv_iload hx hb dX14_readName_290 (lv_at hl 0 rfl) ?_
                        refine lv_sipush (v := 1000) hx hb dX14_readName_292 (by decide) ?_
                        have kb_1000 : bd 1000 1000 (1000 : Int32) := ⟨by decide, by decide⟩
                        refine lv_icmp_ge (tgt := 302) hx hb dX14_readName_295 (by decide) (fun c_671 => ?_) (fun c_671 => ?_)
                        · have fc_671 := le_f c_671
                          refine lv_iconst (v := 0) hx hb dX14_readName_302 (by decide) ?_
                          refine lv_iconst (v := 5) hx hb dX14_readName_303 (by decide) ?_
                          refine lv_iload_n hx hb dX14_readName_304 rfl (lv_at hl 5 rfl) ?_
                          have hs_672 := sE_1 g 2 rfl (by have h9_0 := bo_; unfold bd at h9_0; have h9_1 := bop_; unfold bd at h9_1; have h9_2 := b_668; unfold bd at h9_2; have h9_3 := bso_; unfold bd at h9_3; have h9_4 := b_587; unfold bd at h9_4; have h9_5 := b_556; unfold bd at h9_5; have h9_6 := b_553; unfold bd at h9_6; have h9_7 := h_19; unfold bd at h9_7; have h9_8 := bx_2; unfold bd at h9_8; have h9_9 := bx_558; unfold bd at h9_9; have h9_10 := b_568; unfold bd at h9_10; have h9_11 := bx_599; unfold bd at h9_11; have h9_12 := h_9; unfold bd at h9_12; have h9_13 := b_601; unfold bd at h9_13; have h8_0 := kb_0; unfold bd at h8_0; have h8_1 := kb_1; unfold bd at h8_1; have h8_2 := kb_1000; unfold bd at h8_2; have h8_3 := kb_1200; unfold bd at h8_3; have h8_4 := kb_40; unfold bd at h8_4; omega)
                          have go_ := g
                          refine g_callEv (As := [.int 0, .int 5, .int x_2]) (rest := []) ⟨hx, hb, hml, hown, hts⟩ (r_X14_need_2 l dC dI L kd tys fr_617 H.size g.2.2.2.1 a0_ ma0_ ka0_ 0 kb_0 5 x_2) (cwV 3 hts (gV_ t_2403 t_2405 t_100 t_198 t_2406) rfl rfl rfl (by decide +kernel) ⟨(show 1 + 1 ≤ N + 1 + 24 by omega), (show 8 + (4 + 11) + 22 ≤ 60 * (N + 1) + 700 by omega)⟩) (pre3V g hK ma0_ ka0_ (by decide) (q := (RX14, TX14, 67)) rfl) rfl hl.1 rfl (lv_room (Nat.le_of_ble_eq_true rfl)) dX14_readName_305 (cl_f hck_0) g hK (by decide) (by decide) (fx' := [(14, 17, a0_, .int x_558), (12, 24, q0_, .ref a_557), (14, 6, a0_, .int x_18), (14, 10, a0_, .int x_8), (14, 2, a0_, .ref q0_), (14, 16, a0_, .int o_), (14, 25, a0_, .int op_)]) rfl (fun xr_673 fr_673 H locs mxr_673 kxr_673 hp hMr_673 g => ?_) (fun fr_673 H locs hp hMr_673 g => ?_)
                          · have hG_674 := isN.frame hMr_673 go_.2.2.2.1 ma0_ ka0_ (by decide) (by decide) hG_619
                            have hG_675 := cEq.frame hMr_673 go_.2.2.2.1 ma0_ ka0_ (by decide) (by decide) hG_620
                            have hG_676 := isV.frame hMr_673 go_.2.2.2.1 mq0_ kq0_ (by decide) (by decide) hG_621
                            have hG_677 := FR.frame hMr_673 go_.2.2.2.1 mq0_ kq0_ (by decide) (by decide) hG_622
                            subst hQ
                            exact leavesX hempty hlocks (fun t ht hW => g_thrX g hK mxr_673 kxr_673 (by omega) ht hW) g.2.2.1.2.2
                          · exact hp.elim
                        · have fc_671 := nle_f c_671
                          have b_678 : bd 1000 999 r_617 := ltL fc_671 b_668 kb_1000 (by decide)
                          exact bd_no b_678 (by decide)
                    · have b_679 : bd 2000 2007 r_617 := ⟨h_623.1, h_623.2⟩
                      have hv_680 : varOK V_609 r_617 o_.toNatClampNeg := Or.inr (Or.inr h_623)
                      refine lv_istore (lv' := [(10, .int r_617), (9, .int 0), (8, .int t_), (6, .long x_4), (4, .long x_3), (3, .int x_2), (0, .ref a0_), (1, .int x1_), (2, .int x2_)]) hx hb dX14_readName_283 hl (by decide) rfl (fun ls hl => ?_)
                      refine lv_aload_n hx hb dX14_readName_285 rfl (lv_at hl 6 rfl) ?_
                      refine lv_iload_n hx hb dX14_readName_286 rfl (lv_at hl 8 rfl) ?_
                      refine lv_if_eq (tgt := 298) hx hb dX14_readName_287 (by decide) (fun c_681 => ?_) (fun c_681 => ?_)
                      · have fc_681 := eq_f c_681
                        exact absurd fc_681 fc_552
                      · have fc_681 := neq_f c_681
                        refine lv_iload hx hb dX14_readName_290 (lv_at hl 0 rfl) ?_
                        refine lv_sipush (v := 1000) hx hb dX14_readName_292 (by decide) ?_
                        have kb_1000 : bd 1000 1000 (1000 : Int32) := ⟨by decide, by decide⟩
                        refine lv_icmp_ge (tgt := 302) hx hb dX14_readName_295 (by decide) (fun c_682 => ?_) (fun c_682 => ?_)
                        · have fc_682 := le_f c_682
                          refine lv_iconst (v := 0) hx hb dX14_readName_302 (by decide) ?_
                          refine lv_iconst (v := 5) hx hb dX14_readName_303 (by decide) ?_
                          refine lv_iload_n hx hb dX14_readName_304 rfl (lv_at hl 5 rfl) ?_
                          have hs_683 := sE_1 g 2 rfl (by have h9_0 := bo_; unfold bd at h9_0; have h9_1 := bop_; unfold bd at h9_1; have h9_2 := b_679; unfold bd at h9_2; have h9_3 := bso_; unfold bd at h9_3; have h9_4 := b_587; unfold bd at h9_4; have h9_5 := b_556; unfold bd at h9_5; have h9_6 := b_553; unfold bd at h9_6; have h9_7 := h_19; unfold bd at h9_7; have h9_8 := bx_2; unfold bd at h9_8; have h9_9 := bx_558; unfold bd at h9_9; have h9_10 := b_568; unfold bd at h9_10; have h9_11 := bx_599; unfold bd at h9_11; have h9_12 := h_9; unfold bd at h9_12; have h9_13 := b_601; unfold bd at h9_13; have h8_0 := kb_0; unfold bd at h8_0; have h8_1 := kb_1; unfold bd at h8_1; have h8_2 := kb_1000; unfold bd at h8_2; have h8_3 := kb_1200; unfold bd at h8_3; have h8_4 := kb_40; unfold bd at h8_4; omega)
                          have go_ := g
                          refine g_callEv (As := [.int 0, .int 5, .int x_2]) (rest := []) ⟨hx, hb, hml, hown, hts⟩ (r_X14_need_2 l dC dI L kd tys fr_617 H.size g.2.2.2.1 a0_ ma0_ ka0_ 0 kb_0 5 x_2) (cwV 3 hts (gV_ t_2403 t_2405 t_100 t_198 t_2406) rfl rfl rfl (by decide +kernel) ⟨(show 1 + 1 ≤ N + 1 + 24 by omega), (show 8 + (4 + 11) + 22 ≤ 60 * (N + 1) + 700 by omega)⟩) (pre3V g hK ma0_ ka0_ (by decide) (q := (RX14, TX14, 67)) rfl) rfl hl.1 rfl (lv_room (Nat.le_of_ble_eq_true rfl)) dX14_readName_305 (cl_f hck_0) g hK (by decide) (by decide) (fx' := [(14, 17, a0_, .int x_558), (12, 24, q0_, .ref a_557), (14, 6, a0_, .int x_18), (14, 10, a0_, .int x_8), (14, 2, a0_, .ref q0_), (14, 16, a0_, .int o_), (14, 25, a0_, .int op_)]) rfl (fun xr_684 fr_684 H locs mxr_684 kxr_684 hp hMr_684 g => ?_) (fun fr_684 H locs hp hMr_684 g => ?_)
                          · have hG_685 := isN.frame hMr_684 go_.2.2.2.1 ma0_ ka0_ (by decide) (by decide) hG_619
                            have hG_686 := cEq.frame hMr_684 go_.2.2.2.1 ma0_ ka0_ (by decide) (by decide) hG_620
                            have hG_687 := isV.frame hMr_684 go_.2.2.2.1 mq0_ kq0_ (by decide) (by decide) hG_621
                            have hG_688 := FR.frame hMr_684 go_.2.2.2.1 mq0_ kq0_ (by decide) (by decide) hG_622
                            subst hQ
                            exact leavesX hempty hlocks (fun t ht hW => g_thrX g hK mxr_684 kxr_684 (by omega) ht hW) g.2.2.1.2.2
                          · exact hp.elim
                        · have fc_682 := nle_f c_682
                          have b_689 : bd 2000 999 r_617 := ltL fc_682 b_679 kb_1000 (by decide)
                          exact bd_no b_689 (by decide)
                  · have fc_598 := neq_f c_598
                    have b_690 : bd 1 (-1) x1_ := neX fc_598 b_556 kb_0 (by decide)
                    exact bd_no b_690 (by decide)
        · have fc_555 := neq_f c_555
          have b_691 : bd 1 1 x1_ := neX fc_555 bx1_ kb_0 (by decide)
          refine lv_aload_n hx hb dX14_readName_98 rfl (lv_at hl 5 rfl) ?_
          refine g_getk (C := RX14) (T := TX14) (N := 67) hx hb hts (mc_ inX14) hown hK g rfl 2 (by decide) rfl (hts _ (List.mem_cons_of_mem _ t_2148)) (fun _ h9 => h9) 2 rfl dX14_readName_99 ?_
          refine g_geti (C := RX12) (T := TX12) (N := 60) hx hb hts (mc_ inX12) hown hK g mq0_ kq0_ (by decide) rfl 58 (by decide) rfl (hts _ (List.mem_cons_of_mem _ t_2018)) (fun _ h9 => h9) rfl dX14_readName_102 (fun x_692 bx_692 g => ?_)
          refine lv_sipush (v := 2000) hx hb dX14_readName_105 (by decide) ?_
          have kb_2000 : bd 2000 2000 (2000 : Int32) := ⟨by decide, by decide⟩
          refine lv_icmp_ge (tgt := 115) hx hb dX14_readName_108 (by decide) (fun c_693 => ?_) (fun c_693 => ?_)
          · have fc_693 := le_f c_693
            have b_694 : bd 2000 2147483647 x_692 := leR fc_693 kb_2000 (bdT x_692) (by decide)
            refine lv_iconst (v := 0) hx hb dX14_readName_115 (by decide) ?_
            refine lv_goto (tgt := 141) hx hb dX14_readName_116 (by decide) ?_
            refine lv_iconst (v := 4) hx hb dX14_readName_141 (by decide) ?_
            refine lv_iload_n hx hb dX14_readName_142 rfl (lv_at hl 4 rfl) ?_
            have hs_695 := sE_1 g 1 rfl (by have h9_0 := bo_; unfold bd at h9_0; have h9_1 := bop_; unfold bd at h9_1; have h9_2 := bso_; unfold bd at h9_2; have h9_3 := bt_; unfold bd at h9_3; have h9_4 := b_691; unfold bd at h9_4; have h9_5 := b_553; unfold bd at h9_5; have h9_6 := h_19; unfold bd at h9_6; have h9_7 := bx_2; unfold bd at h9_7; have h9_8 := b_694; unfold bd at h9_8; have h9_9 := h_9; unfold bd at h9_9; have h8_0 := kb_0; unfold bd at h8_0; have h8_1 := kb_2000; unfold bd at h8_1; omega)
            have go_ := g
            refine g_callEv (As := [.int 0, .int 4, .int x_2]) (rest := []) ⟨hx, hb, hml, hown, hts⟩ (r_X14_need_2 l dC dI L kd tys f H.size g.2.2.2.1 a0_ ma0_ ka0_ 0 kb_0 4 x_2) (cwV 3 hts (gV_ t_2403 t_2405 t_100 t_198 t_2406) rfl rfl rfl (by decide +kernel) ⟨(show 1 + 1 ≤ N + 1 + 24 by omega), (show 8 + (4 + 11) + 22 ≤ 60 * (N + 1) + 700 by omega)⟩) (pre3V g hK ma0_ ka0_ (by decide) (q := (RX14, TX14, 67)) rfl) rfl hl.1 rfl (lv_room (Nat.le_of_ble_eq_true rfl)) dX14_readName_143 (cl_f hck_0) g hK (by decide) (by decide) (fx' := [(12, 58, q0_, .int x_692), (14, 6, a0_, .int x_18), (14, 10, a0_, .int x_8), (14, 2, a0_, .ref q0_), (14, 16, a0_, .int o_), (14, 25, a0_, .int op_)]) rfl (fun xr_696 fr_696 H locs mxr_696 kxr_696 hp hMr_696 g => ?_) (fun fr_696 H locs hp hMr_696 g => ?_)
            · have hG_697 := isV.frame hMr_696 go_.2.2.2.1 mq0_ kq0_ (by decide) (by decide) hJ93_V_q0_
              have hG_698 := FR.frame hMr_696 go_.2.2.2.1 mq0_ kq0_ (by decide) (by decide) hJ93_F_q0_
              have hG_699 := isN.frame hMr_696 go_.2.2.2.1 ma0_ ka0_ (by decide) (by decide) hJ93_N_a0_
              have hG_700 := cEq.frame hMr_696 go_.2.2.2.1 ma0_ ka0_ (by decide) (by decide) hJ93_C_a0_
              subst hQ
              exact leavesX hempty hlocks (fun t ht hW => g_thrX g hK mxr_696 kxr_696 (by omega) ht hW) g.2.2.1.2.2
            · exact hp.elim
          · have fc_693 := nle_f c_693
            have b_701 : bd (-2147483648) 1999 x_692 := ltL fc_693 (bdT x_692) kb_2000 (by decide)
            refine lv_iconst (v := 1) hx hb dX14_readName_111 (by decide) ?_
            refine lv_goto (tgt := 141) hx hb dX14_readName_112 (by decide) ?_
            refine lv_iconst (v := 4) hx hb dX14_readName_141 (by decide) ?_
            refine lv_iload_n hx hb dX14_readName_142 rfl (lv_at hl 4 rfl) ?_
            have hs_702 := sE_1 g 1 rfl (by have h9_0 := bo_; unfold bd at h9_0; have h9_1 := bop_; unfold bd at h9_1; have h9_2 := bso_; unfold bd at h9_2; have h9_3 := bt_; unfold bd at h9_3; have h9_4 := b_691; unfold bd at h9_4; have h9_5 := b_553; unfold bd at h9_5; have h9_6 := h_19; unfold bd at h9_6; have h9_7 := bx_2; unfold bd at h9_7; have h9_8 := b_701; unfold bd at h9_8; have h9_9 := h_9; unfold bd at h9_9; have h8_0 := kb_0; unfold bd at h8_0; have h8_1 := kb_2000; unfold bd at h8_1; omega)
            have kb_1 : bd 1 1 (1 : Int32) := ⟨by decide, by decide⟩
            have go_ := g
            refine g_callEv (As := [.int 1, .int 4, .int x_2]) (rest := []) ⟨hx, hb, hml, hown, hts⟩ (r_X14_need_3 l dC dI L kd tys f H.size g.2.2.2.1 a0_ ma0_ ka0_ 1 kb_1 4 x_2) (cwV 3 hts (gV_ t_2403 t_2405 t_100 t_198 t_2406) rfl rfl rfl (by decide +kernel) ⟨(show 0 + 1 ≤ N + 1 + 24 by omega), (show 8 + (4 + 11) + 0 ≤ 60 * (N + 1) + 700 by omega)⟩) (pre3V g hK ma0_ ka0_ (by decide) (q := (RX14, TX14, 67)) rfl) rfl hl.1 rfl (lv_room (Nat.le_of_ble_eq_true rfl)) dX14_readName_143 (cl_f hck_0) g hK (by decide) (by decide) (fx' := [(12, 58, q0_, .int x_692), (14, 6, a0_, .int x_18), (14, 10, a0_, .int x_8), (14, 2, a0_, .ref q0_), (14, 16, a0_, .int o_), (14, 25, a0_, .int op_)]) rfl (fun xr_703 fr_703 H locs mxr_703 kxr_703 hp hMr_703 g => ?_) (fun fr_703 H locs hp hMr_703 g => ?_)
            · have hG_704 := isV.frame hMr_703 go_.2.2.2.1 mq0_ kq0_ (by decide) (by decide) hJ93_V_q0_
              have hG_705 := FR.frame hMr_703 go_.2.2.2.1 mq0_ kq0_ (by decide) (by decide) hJ93_F_q0_
              have hG_706 := isN.frame hMr_703 go_.2.2.2.1 ma0_ ka0_ (by decide) (by decide) hJ93_N_a0_
              have hG_707 := cEq.frame hMr_703 go_.2.2.2.1 ma0_ ka0_ (by decide) (by decide) hJ93_C_a0_
              exact hp.elim
            · have hG_708 := isV.frame hMr_703 go_.2.2.2.1 mq0_ kq0_ (by decide) (by decide) hJ93_V_q0_
              have hG_709 := FR.frame hMr_703 go_.2.2.2.1 mq0_ kq0_ (by decide) (by decide) hJ93_F_q0_
              have hG_710 := isN.frame hMr_703 go_.2.2.2.1 ma0_ ka0_ (by decide) (by decide) hJ93_N_a0_
              have hG_711 := cEq.frame hMr_703 go_.2.2.2.1 ma0_ ka0_ (by decide) (by decide) hJ93_C_a0_
              refine lv_aload_n hx hb dX14_readName_146 rfl (lv_at hl 5 rfl) ?_
              refine lv_iload hx hb dX14_readName_147 (lv_at hl 1 rfl) ?_
              refine lv_sipush (v := 1200) hx hb dX14_readName_149 (by decide) ?_
              have kb_1200 : bd 1200 1200 (1200 : Int32) := ⟨by decide, by decide⟩
              refine lv_icmp_gt (tgt := 159) hx hb dX14_readName_152 (by decide) (fun c_712 => ?_) (fun c_712 => ?_)
              · have fc_712 := lt_f c_712
                have b_713 : bd 1201 1201 t_ := ltR fc_712 kb_1200 bt_ (by decide)
                refine lv_iconst (v := 0) hx hb dX14_readName_159 (by decide) ?_
                refine lv_iconst (v := 4) hx hb dX14_readName_160 (by decide) ?_
                refine lv_iload_n hx hb dX14_readName_161 rfl (lv_at hl 4 rfl) ?_
                have hs_714 := sE_1 g 1 rfl (by have h9_0 := bo_; unfold bd at h9_0; have h9_1 := bop_; unfold bd at h9_1; have h9_2 := bso_; unfold bd at h9_2; have h9_3 := b_713; unfold bd at h9_3; have h9_4 := b_691; unfold bd at h9_4; have h9_5 := b_553; unfold bd at h9_5; have h9_6 := h_19; unfold bd at h9_6; have h9_7 := bx_2; unfold bd at h9_7; have h9_8 := b_701; unfold bd at h9_8; have h9_9 := h_9; unfold bd at h9_9; have h8_0 := kb_0; unfold bd at h8_0; have h8_1 := kb_1; unfold bd at h8_1; have h8_2 := kb_1200; unfold bd at h8_2; have h8_3 := kb_2000; unfold bd at h8_3; omega)
                have go_ := g
                refine g_callEv (As := [.int 0, .int 4, .int x_2]) (rest := []) ⟨hx, hb, hml, hown, hts⟩ (r_X14_need_2 l dC dI L kd tys fr_703 H.size g.2.2.2.1 a0_ ma0_ ka0_ 0 kb_0 4 x_2) (cwV 3 hts (gV_ t_2403 t_2405 t_100 t_198 t_2406) rfl rfl rfl (by decide +kernel) ⟨(show 1 + 1 ≤ N + 1 + 24 by omega), (show 8 + (4 + 11) + 22 ≤ 60 * (N + 1) + 700 by omega)⟩) (pre3V g hK ma0_ ka0_ (by decide) (q := (RX14, TX14, 67)) rfl) rfl hl.1 rfl (lv_room (Nat.le_of_ble_eq_true rfl)) dX14_readName_162 (cl_f hck_0) g hK (by decide) (by decide) (fx' := [(12, 58, q0_, .int x_692), (14, 6, a0_, .int x_18), (14, 10, a0_, .int x_8), (14, 2, a0_, .ref q0_), (14, 16, a0_, .int o_), (14, 25, a0_, .int op_)]) rfl (fun xr_715 fr_715 H locs mxr_715 kxr_715 hp hMr_715 g => ?_) (fun fr_715 H locs hp hMr_715 g => ?_)
                · have hG_716 := isV.frame hMr_715 go_.2.2.2.1 mq0_ kq0_ (by decide) (by decide) hG_708
                  have hG_717 := FR.frame hMr_715 go_.2.2.2.1 mq0_ kq0_ (by decide) (by decide) hG_709
                  have hG_718 := isN.frame hMr_715 go_.2.2.2.1 ma0_ ka0_ (by decide) (by decide) hG_710
                  have hG_719 := cEq.frame hMr_715 go_.2.2.2.1 ma0_ ka0_ (by decide) (by decide) hG_711
                  subst hQ
                  exact leavesX hempty hlocks (fun t ht hW => g_thrX g hK mxr_715 kxr_715 (by omega) ht hW) g.2.2.1.2.2
                · exact hp.elim
              · have fc_712 := nlt_f c_712
                have b_720 : bd 0 1200 t_ := leL fc_712 bt_ kb_1200 (by decide)
                refine lv_iconst (v := 1) hx hb dX14_readName_155 (by decide) ?_
                refine lv_goto (tgt := 160) hx hb dX14_readName_156 (by decide) ?_
                refine lv_iconst (v := 4) hx hb dX14_readName_160 (by decide) ?_
                refine lv_iload_n hx hb dX14_readName_161 rfl (lv_at hl 4 rfl) ?_
                have hs_721 := sE_1 g 1 rfl (by have h9_0 := bo_; unfold bd at h9_0; have h9_1 := bop_; unfold bd at h9_1; have h9_2 := bso_; unfold bd at h9_2; have h9_3 := b_720; unfold bd at h9_3; have h9_4 := b_691; unfold bd at h9_4; have h9_5 := b_553; unfold bd at h9_5; have h9_6 := h_19; unfold bd at h9_6; have h9_7 := bx_2; unfold bd at h9_7; have h9_8 := b_701; unfold bd at h9_8; have h9_9 := h_9; unfold bd at h9_9; have h8_0 := kb_0; unfold bd at h8_0; have h8_1 := kb_1; unfold bd at h8_1; have h8_2 := kb_1200; unfold bd at h8_2; have h8_3 := kb_2000; unfold bd at h8_3; omega)
                have go_ := g
                refine g_callEv (As := [.int 1, .int 4, .int x_2]) (rest := []) ⟨hx, hb, hml, hown, hts⟩ (r_X14_need_3 l dC dI L kd tys fr_703 H.size g.2.2.2.1 a0_ ma0_ ka0_ 1 kb_1 4 x_2) (cwV 3 hts (gV_ t_2403 t_2405 t_100 t_198 t_2406) rfl rfl rfl (by decide +kernel) ⟨(show 0 + 1 ≤ N + 1 + 24 by omega), (show 8 + (4 + 11) + 0 ≤ 60 * (N + 1) + 700 by omega)⟩) (pre3V g hK ma0_ ka0_ (by decide) (q := (RX14, TX14, 67)) rfl) rfl hl.1 rfl (lv_room (Nat.le_of_ble_eq_true rfl)) dX14_readName_162 (cl_f hck_0) g hK (by decide) (by decide) (fx' := [(12, 58, q0_, .int x_692), (14, 6, a0_, .int x_18), (14, 10, a0_, .int x_8), (14, 2, a0_, .ref q0_), (14, 16, a0_, .int o_), (14, 25, a0_, .int op_)]) rfl (fun xr_722 fr_722 H locs mxr_722 kxr_722 hp hMr_722 g => ?_) (fun fr_722 H locs hp hMr_722 g => ?_)
                · have hG_723 := isV.frame hMr_722 go_.2.2.2.1 mq0_ kq0_ (by decide) (by decide) hG_708
                  have hG_724 := FR.frame hMr_722 go_.2.2.2.1 mq0_ kq0_ (by decide) (by decide) hG_709
                  have hG_725 := isN.frame hMr_722 go_.2.2.2.1 ma0_ ka0_ (by decide) (by decide) hG_710
                  have hG_726 := cEq.frame hMr_722 go_.2.2.2.1 ma0_ ka0_ (by decide) (by decide) hG_711
                  exact hp.elim
                · have hG_727 := isV.frame hMr_722 go_.2.2.2.1 mq0_ kq0_ (by decide) (by decide) hG_708
                  have hG_728 := FR.frame hMr_722 go_.2.2.2.1 mq0_ kq0_ (by decide) (by decide) hG_709
                  have hG_729 := isN.frame hMr_722 go_.2.2.2.1 ma0_ ka0_ (by decide) (by decide) hG_710
                  have hG_730 := cEq.frame hMr_722 go_.2.2.2.1 ma0_ ka0_ (by decide) (by decide) hG_711
                  refine lv_iload_n hx hb dX14_readName_165 rfl (lv_at hl 6 rfl) ?_
                  refine lv_if_eq (tgt := 185) hx hb dX14_readName_166 (by decide) (fun c_731 => ?_) (fun c_731 => ?_)
                  · have fc_731 := eq_f c_731
                    exact absurd fc_731 fc_555
                  · have fc_731 := neq_f c_731
                    refine lv_aload_n hx hb dX14_readName_169 rfl (lv_at hl 5 rfl) ?_
                    refine g_getk (C := RX14) (T := TX14) (N := 67) hx hb hts (mc_ inX14) hown hK g rfl 2 (by decide) rfl (hts _ (List.mem_cons_of_mem _ t_2148)) (fun _ h9 => h9) 3 rfl dX14_readName_170 ?_
                    refine lv_dup hx hb dX14_readName_173 rfl ?_
                    refine g_getk (C := RX12) (T := TX12) (N := 60) hx hb hts (mc_ inX12) hown hK g rfl 58 (by decide) rfl (hts _ (List.mem_cons_of_mem _ t_2018)) (fun _ h9 => h9) 0 rfl dX14_readName_174 ?_
                    refine lv_iconst (v := 1) hx hb dX14_readName_177 (by decide) ?_
                    refine lv_iadd hx hb dX14_readName_178 ?_
                    refine lv_topi (fun y_732 ey_732 => ?_)
                    have ty_732 := add_bd ey_732 b_701 kb_1 (by decide)
                    have b_733 : bd (-2147483647) 2000 y_732 := add_rg ty_732 b_701 kb_1 (by decide)
                    have gp_734 := g
                    have go_ := g
                    refine g_putX (C := RX12) (T := TX12) (N := 60) hx hb hts (mc_ inX12) tyX12 tyX12_ok nmX12 hown hK g mq0_ kq0_ (by decide) rfl 58 (by decide) (hts _ (List.mem_cons_of_mem _ t_2018)) (fun _ h9 => h9) rfl rfl (okV_i (bd_sub b_733 (by decide))) rfl rfl (by decide) (Or.inr (Or.inl (by decide))) (fx' := [(14, 6, a0_, .int x_18), (14, 10, a0_, .int x_8), (14, 2, a0_, .ref q0_), (14, 16, a0_, .int o_), (14, 25, a0_, .int op_)]) rfl dX14_readName_179 (fun f H locs hM_735 u_738 g => ?_)
                    have hG_736 := isN.frame hM_735 go_.2.2.2.1 ma0_ ka0_ (by decide) (by decide) hG_729
                    have hG_737 := cEq.frame hM_735 go_.2.2.2.1 ma0_ ka0_ (by decide) (by decide) hG_730
                    have hV_739 := isV.u58 hG_727 gp_734.2.2.2.1 mq0_ kq0_ u_738
                    have hF_740 := FR.fld hG_728 u_738
                    refine lv_goto (tgt := 201) hx hb dX14_readName_182 (by decide) ?_
                    refine lv_iload hx hb dX14_readName_201 (lv_at hl 0 rfl) ?_
                    refine lv_if_eq (tgt := 275) hx hb dX14_readName_203 (by decide) (fun c_ => ?_) (fun c_ => absurd (by decide) c_)
                    refine lv_aload_n hx hb dX14_readName_275 rfl (lv_at hl 5 rfl) ?_
                    refine lv_lload hx hb dX14_readName_276 (lv_at hl 3 rfl) ?_
                    refine lv_lload hx hb dX14_readName_278 (lv_at hl 2 rfl) ?_
                    have hs_741 := sE_1 g 1 rfl (by have h9_0 := bo_; unfold bd at h9_0; have h9_1 := bop_; unfold bd at h9_1; have h9_2 := bso_; unfold bd at h9_2; have h9_3 := b_720; unfold bd at h9_3; have h9_4 := b_691; unfold bd at h9_4; have h9_5 := b_553; unfold bd at h9_5; have h9_6 := h_19; unfold bd at h9_6; have h9_7 := bx_2; unfold bd at h9_7; have h9_8 := b_701; unfold bd at h9_8; have h9_9 := h_9; unfold bd at h9_9; have h9_10 := b_733; unfold bd at h9_10; have h8_0 := kb_0; unfold bd at h8_0; have h8_1 := kb_1; unfold bd at h8_1; have h8_2 := kb_1200; unfold bd at h8_2; have h8_3 := kb_2000; unfold bd at h8_3; omega)
                    have go_ := g
                    refine g_calli (va_runV (As := [.long x_3, .long x_4]) (rest := []) ⟨hx, hb, hml, hown, hts⟩ (r_X14_named_2 l dC dI L kd tys f H.size g.2.2.2.1 a0_ ma0_ ka0_ x_3 x_4 q0_ mq0_ kq0_ o_ bo_ V_ N_ hG_736 hV_739 (g.fcts [3, 4] rfl)) (cwV 2 hts (gV_ t_2504 t_2506 t_122 t_198 t_2507) rfl rfl rfl (by decide +kernel) ⟨(show 1 + 1 ≤ N + 1 + 24 by omega), (show 8 + (6 + 11) + 26 ≤ 60 * (N + 1) + 700 by omega)⟩) (pre3V g hK ma0_ ka0_ (by decide) (q := (RX14, TX14, 67)) rfl) rfl rfl hl.1 rfl (lv_room (Nat.le_of_ble_eq_true rfl)) dX14_readName_280 (cl_f hck_0)) g hK (by decide) (by decide) (fx' := [(12, 58, q0_, .int y_732), (14, 6, a0_, .int x_18), (14, 10, a0_, .int x_8), (14, 2, a0_, .ref q0_), (14, 16, a0_, .int o_), (14, 25, a0_, .int op_)]) rfl (fun r_742 fr_742 H locs hp hMr_742 g => ?_)
                    obtain ⟨hx_743, -⟩ := hp
                    have hG_744 := isN.frame hMr_742 go_.2.2.2.1 ma0_ ka0_ (by decide) (by decide) hG_736
                    have hG_745 := cEq.frame hMr_742 go_.2.2.2.1 ma0_ ka0_ (by decide) (by decide) hG_737
                    have hG_746 := isV.frame hMr_742 go_.2.2.2.1 mq0_ kq0_ (by decide) (by decide) hV_739
                    have hG_747 := FR.frame hMr_742 go_.2.2.2.1 mq0_ kq0_ (by decide) (by decide) hF_740
                    rcases hx_743 with ⟨h_748, hd_749⟩ | ⟨h_748 | h_748 | h_748, hd_749⟩
                    · obtain rfl : r_742 = (-1) := Int32.toInt_inj.mp (h_748.trans (by decide))
                      exact absurd hd93 hd_749
                    · have b_750 : bd 0 9 r_742 := ⟨h_748.1, h_748.2.1⟩
                      have hv_751 : varOK V_ r_742 o_.toNatClampNeg := Or.inl h_748
                      refine lv_istore (lv' := [(10, .int r_742), (9, .int 0), (8, .int t_), (6, .long x_4), (4, .long x_3), (3, .int x_2), (0, .ref a0_), (1, .int x1_), (2, .int x2_)]) hx hb dX14_readName_283 hl (by decide) rfl (fun ls hl => ?_)
                      refine lv_aload_n hx hb dX14_readName_285 rfl (lv_at hl 6 rfl) ?_
                      refine lv_iload_n hx hb dX14_readName_286 rfl (lv_at hl 8 rfl) ?_
                      refine lv_if_eq (tgt := 298) hx hb dX14_readName_287 (by decide) (fun c_752 => ?_) (fun c_752 => ?_)
                      · have fc_752 := eq_f c_752
                        exact absurd fc_752 fc_552
                      · have fc_752 := neq_f c_752
                        refine lv_iload hx hb dX14_readName_290 (lv_at hl 0 rfl) ?_
                        refine lv_sipush (v := 1000) hx hb dX14_readName_292 (by decide) ?_
                        have kb_1000 : bd 1000 1000 (1000 : Int32) := ⟨by decide, by decide⟩
                        refine lv_icmp_ge (tgt := 302) hx hb dX14_readName_295 (by decide) (fun c_753 => ?_) (fun c_753 => ?_)
                        · have fc_753 := le_f c_753
                          have b_754 : bd 1000 9 (1000 : Int32) := leL fc_753 kb_1000 b_750 (by decide)
                          exact bd_no (eqX rfl b_754 kb_1000 (lo := 1000) (hi := 9) (by decide)) (by decide)
                        · have fc_753 := nle_f c_753
                          refine lv_iconst (v := 1) hx hb dX14_readName_298 (by decide) ?_
                          refine lv_goto (tgt := 303) hx hb dX14_readName_299 (by decide) ?_
                          refine lv_iconst (v := 5) hx hb dX14_readName_303 (by decide) ?_
                          refine lv_iload_n hx hb dX14_readName_304 rfl (lv_at hl 5 rfl) ?_
                          have hs_755 := sE_1 g 1 rfl (by have h9_0 := bo_; unfold bd at h9_0; have h9_1 := bop_; unfold bd at h9_1; have h9_2 := b_750; unfold bd at h9_2; have h9_3 := bso_; unfold bd at h9_3; have h9_4 := b_720; unfold bd at h9_4; have h9_5 := b_691; unfold bd at h9_5; have h9_6 := b_553; unfold bd at h9_6; have h9_7 := h_19; unfold bd at h9_7; have h9_8 := bx_2; unfold bd at h9_8; have h9_9 := b_701; unfold bd at h9_9; have h9_10 := h_9; unfold bd at h9_10; have h9_11 := b_733; unfold bd at h9_11; have h8_0 := kb_0; unfold bd at h8_0; have h8_1 := kb_1; unfold bd at h8_1; have h8_2 := kb_1000; unfold bd at h8_2; have h8_3 := kb_1200; unfold bd at h8_3; have h8_4 := kb_2000; unfold bd at h8_4; omega)
                          have go_ := g
                          refine g_callEv (As := [.int 1, .int 5, .int x_2]) (rest := []) ⟨hx, hb, hml, hown, hts⟩ (r_X14_need_3 l dC dI L kd tys fr_742 H.size g.2.2.2.1 a0_ ma0_ ka0_ 1 kb_1 5 x_2) (cwV 3 hts (gV_ t_2403 t_2405 t_100 t_198 t_2406) rfl rfl rfl (by decide +kernel) ⟨(show 0 + 1 ≤ N + 1 + 24 by omega), (show 8 + (4 + 11) + 0 ≤ 60 * (N + 1) + 700 by omega)⟩) (pre3V g hK ma0_ ka0_ (by decide) (q := (RX14, TX14, 67)) rfl) rfl hl.1 rfl (lv_room (Nat.le_of_ble_eq_true rfl)) dX14_readName_305 (cl_f hck_0) g hK (by decide) (by decide) (fx' := [(12, 58, q0_, .int y_732), (14, 6, a0_, .int x_18), (14, 10, a0_, .int x_8), (14, 2, a0_, .ref q0_), (14, 16, a0_, .int o_), (14, 25, a0_, .int op_)]) rfl (fun xr_756 fr_756 H locs mxr_756 kxr_756 hp hMr_756 g => ?_) (fun fr_756 H locs hp hMr_756 g => ?_)
                          · have hG_757 := isN.frame hMr_756 go_.2.2.2.1 ma0_ ka0_ (by decide) (by decide) hG_744
                            have hG_758 := cEq.frame hMr_756 go_.2.2.2.1 ma0_ ka0_ (by decide) (by decide) hG_745
                            have hG_759 := isV.frame hMr_756 go_.2.2.2.1 mq0_ kq0_ (by decide) (by decide) hG_746
                            have hG_760 := FR.frame hMr_756 go_.2.2.2.1 mq0_ kq0_ (by decide) (by decide) hG_747
                            exact hp.elim
                          · have hG_761 := isN.frame hMr_756 go_.2.2.2.1 ma0_ ka0_ (by decide) (by decide) hG_744
                            have hG_762 := cEq.frame hMr_756 go_.2.2.2.1 ma0_ ka0_ (by decide) (by decide) hG_745
                            have hG_763 := isV.frame hMr_756 go_.2.2.2.1 mq0_ kq0_ (by decide) (by decide) hG_746
                            have hG_764 := FR.frame hMr_756 go_.2.2.2.1 mq0_ kq0_ (by decide) (by decide) hG_747
                            refine lv_aload_n hx hb dX14_readName_308 rfl (lv_at hl 6 rfl) ?_
                            refine lv_iload hx hb dX14_readName_309 (lv_at hl 0 rfl) ?_
                            refine lv_iload_n hx hb dX14_readName_311 rfl (lv_at hl 5 rfl) ?_
                            refine lv_iload_n hx hb dX14_readName_312 rfl (lv_at hl 7 rfl) ?_
                            have qc__765 : cF fr_756 a0_ = _ := hG_762
                            have hs_766 := sE_1 g 1 rfl (by have h9_0 := bo_; unfold bd at h9_0; have h9_1 := bop_; unfold bd at h9_1; have h9_2 := b_750; unfold bd at h9_2; have h9_3 := bso_; unfold bd at h9_3; have h9_4 := b_720; unfold bd at h9_4; have h9_5 := b_691; unfold bd at h9_5; have h9_6 := b_553; unfold bd at h9_6; have h9_7 := h_19; unfold bd at h9_7; have h9_8 := bx_2; unfold bd at h9_8; have h9_9 := b_701; unfold bd at h9_9; have h9_10 := h_9; unfold bd at h9_10; have h9_11 := b_733; unfold bd at h9_11; have h8_0 := kb_0; unfold bd at h8_0; have h8_1 := kb_1; unfold bd at h8_1; have h8_2 := kb_1000; unfold bd at h8_2; have h8_3 := kb_1200; unfold bd at h8_3; have h8_4 := kb_2000; unfold bd at h8_4; omega)
                            have b_767 : bd 0 1201 x_8 := ⟨(by have h9_0 := bo_; unfold bd at h9_0; have h9_1 := bop_; unfold bd at h9_1; have h9_2 := b_750; unfold bd at h9_2; have h9_3 := bso_; unfold bd at h9_3; have h9_4 := b_720; unfold bd at h9_4; have h9_5 := b_691; unfold bd at h9_5; have h9_6 := b_553; unfold bd at h9_6; have h9_7 := h_19; unfold bd at h9_7; have h9_8 := bx_2; unfold bd at h9_8; have h9_9 := b_701; unfold bd at h9_9; have h9_10 := h_9; unfold bd at h9_10; have h9_11 := b_733; unfold bd at h9_11; have h8_0 := kb_0; unfold bd at h8_0; have h8_1 := kb_1; unfold bd at h8_1; have h8_2 := kb_1000; unfold bd at h8_2; have h8_3 := kb_1200; unfold bd at h8_3; have h8_4 := kb_2000; unfold bd at h8_4; omega), (by have h9_0 := bo_; unfold bd at h9_0; have h9_1 := bop_; unfold bd at h9_1; have h9_2 := b_750; unfold bd at h9_2; have h9_3 := bso_; unfold bd at h9_3; have h9_4 := b_720; unfold bd at h9_4; have h9_5 := b_691; unfold bd at h9_5; have h9_6 := b_553; unfold bd at h9_6; have h9_7 := h_19; unfold bd at h9_7; have h9_8 := bx_2; unfold bd at h9_8; have h9_9 := b_701; unfold bd at h9_9; have h9_10 := h_9; unfold bd at h9_10; have h9_11 := b_733; unfold bd at h9_11; have h8_0 := kb_0; unfold bd at h8_0; have h8_1 := kb_1; unfold bd at h8_1; have h8_2 := kb_1000; unfold bd at h8_2; have h8_3 := kb_1200; unfold bd at h8_3; have h8_4 := kb_2000; unfold bd at h8_4; omega)⟩
                            have go_ := g
                            refine g_callXi (As := [.int r_742, .int x_2, .int x1_]) (rest := []) ⟨hx, hb, hml, hown, hts⟩ (ih.2.2.2.2.2.1 l dC dI L kd tys fr_756 H.size g.2.2.2.1 adK adV a0_ ma0_ ka0_ r_742 x_2 x1_ (bd_sub b_691 (by decide)) q0_ mq0_ kq0_ V_ o_ bo_ op_ bop_ x_8 b_767 hG_763 hwf ho (by omega) hm_ hhm hv_751 (K_ - cl_0) (by omega) (by have h9_0 := bo_; unfold bd at h9_0; have h9_1 := bop_; unfold bd at h9_1; have h9_2 := b_750; unfold bd at h9_2; have h9_3 := bso_; unfold bd at h9_3; have h9_4 := b_720; unfold bd at h9_4; have h9_5 := b_691; unfold bd at h9_5; have h9_6 := b_553; unfold bd at h9_6; have h9_7 := h_19; unfold bd at h9_7; have h9_8 := bx_2; unfold bd at h9_8; have h9_9 := b_701; unfold bd at h9_9; have h9_10 := b_767; unfold bd at h9_10; have h9_11 := b_733; unfold bd at h9_11; have h8_0 := kb_0; unfold bd at h8_0; have h8_1 := kb_1; unfold bd at h8_1; have h8_2 := kb_1000; unfold bd at h8_2; have h8_3 := kb_1200; unfold bd at h8_3; have h8_4 := kb_2000; unfold bd at h8_4; omega) (g.fcts [3, 4, 5, 2] rfl)) (cwV 3 hts (gV_ t_2512 t_2514 t_124 t_198 t_2515) rfl rfl rfl (by decide +kernel) ⟨(show N + 24 + 1 ≤ N + 1 + 24 by omega), (show 8 + (8 + 11) + (60 * N + 700) ≤ 60 * (N + 1) + 700 by omega)⟩) (pre3VA g hK hAm ma0_ ka0_ (by decide) (q := (RX14, TX14, 67)) rfl) rfl hl.1 rfl (lv_room (Nat.le_of_ble_eq_true rfl)) dX14_readName_313 (cl_k (K := K_) (k := K_ - cl_0) (show cl_0 + (K_ - cl_0) ≤ K_ by omega)) g hK (by decide) (by decide) (fx' := [(14, 2, a0_, .ref q0_), (14, 16, a0_, .int o_)]) rfl (fun xr_768 fr_768 H locs kr_768 cr_768 ecr_768 mxr_768 kxr_768 hp hMr_768 g => ?_) (fun r_768 fr_768 H locs kr_768 cr_768 ecr_768 hp hMr_768 g => ?_)
                            · have hG_769 := isN.frame hMr_768 go_.2.2.2.1 ma0_ ka0_ (by decide) (by decide) hG_761
                              subst hQ
                              exact leavesX hempty hlocks (fun t ht hW => g_thrX g hK mxr_768 kxr_768 (by omega) ht hW) g.2.2.1.2.2
                            · obtain ⟨hx_770, x_771, h_772, hF_773⟩ := hp
                              have hG_774 := isN.frame hMr_768 go_.2.2.2.1 ma0_ ka0_ (by decide) (by decide) hG_761
                              obtain ⟨V_775, E_776, hV_777, hF_778, hE_779, hX_780, hw_781, hv_782, hP_783, hn_784, hk_785, hc_786⟩ := rd_use hx_770 hG_762
                              have hF_787 := FR.call (mds := []) (mas := []) hG_764 go_ mq0_ kq0_ rfl hF_778
                              have mxE_776 : E_776 ≤ 1202 := by have h9 := cF_le g ma0_ ka0_; have h8 : cF _ _ = _ := hE_779; omega
                              have hx_788 := exN.tr exN.rf hX_780
                              have hv_789 := exN.var hX_780 hv_751
                              have hd_790 := nmd_ex hX_780 hd_749
                              have hck_791 : cr_768 ≤ K_ := by omega
                              have b_792 : bd 0 2499 r_768 := ⟨hv_782.1, (by have h9 := hv_782.2.1; omega)⟩
                              have g := g.more hF_773
                              have h9c : cF fr_768 a0_ = _ := hE_779
                              subst hQ
                              exact iretX (v := r_768) hx hb hr (fun t ht hW => g_retX g hK ⟨_, rfl, ⟨⟨_, hV_777, hF_787, hx_788, hw_781, hv_782, ⟨Or.inl hP_783, fun _ => hP_783⟩, (by omega), (by omega), (by omega)⟩, x_771, h_772, (g.fcts [0, 1] rfl)⟩⟩ ht hW) g.2.2.1.2.2 dX14_readName_316 hlocks
                    · have b_793 : bd 1000 1002 r_742 := ⟨h_748.1, h_748.2⟩
                      have hv_794 : varOK V_ r_742 o_.toNatClampNeg := Or.inr (Or.inl h_748)
                      refine lv_istore (lv' := [(10, .int r_742), (9, .int 0), (8, .int t_), (6, .long x_4), (4, .long x_3), (3, .int x_2), (0, .ref a0_), (1, .int x1_), (2, .int x2_)]) hx hb dX14_readName_283 hl (by decide) rfl (fun ls hl => ?_)
                      refine lv_aload_n hx hb dX14_readName_285 rfl (lv_at hl 6 rfl) ?_
                      refine lv_iload_n hx hb dX14_readName_286 rfl (lv_at hl 8 rfl) ?_
                      refine lv_if_eq (tgt := 298) hx hb dX14_readName_287 (by decide) (fun c_795 => ?_) (fun c_795 => ?_)
                      · have fc_795 := eq_f c_795
                        exact absurd fc_795 fc_552
                      · have fc_795 := neq_f c_795
                        refine lv_iload hx hb dX14_readName_290 (lv_at hl 0 rfl) ?_
                        refine lv_sipush (v := 1000) hx hb dX14_readName_292 (by decide) ?_
                        have kb_1000 : bd 1000 1000 (1000 : Int32) := ⟨by decide, by decide⟩
                        refine lv_icmp_ge (tgt := 302) hx hb dX14_readName_295 (by decide) (fun c_796 => ?_) (fun c_796 => ?_)
                        · have fc_796 := le_f c_796
                          refine lv_iconst (v := 0) hx hb dX14_readName_302 (by decide) ?_
                          refine lv_iconst (v := 5) hx hb dX14_readName_303 (by decide) ?_
                          refine lv_iload_n hx hb dX14_readName_304 rfl (lv_at hl 5 rfl) ?_
                          have hs_797 := sE_1 g 1 rfl (by have h9_0 := bo_; unfold bd at h9_0; have h9_1 := bop_; unfold bd at h9_1; have h9_2 := b_793; unfold bd at h9_2; have h9_3 := bso_; unfold bd at h9_3; have h9_4 := b_720; unfold bd at h9_4; have h9_5 := b_691; unfold bd at h9_5; have h9_6 := b_553; unfold bd at h9_6; have h9_7 := h_19; unfold bd at h9_7; have h9_8 := bx_2; unfold bd at h9_8; have h9_9 := b_701; unfold bd at h9_9; have h9_10 := h_9; unfold bd at h9_10; have h9_11 := b_733; unfold bd at h9_11; have h8_0 := kb_0; unfold bd at h8_0; have h8_1 := kb_1; unfold bd at h8_1; have h8_2 := kb_1000; unfold bd at h8_2; have h8_3 := kb_1200; unfold bd at h8_3; have h8_4 := kb_2000; unfold bd at h8_4; omega)
                          have go_ := g
                          refine g_callEv (As := [.int 0, .int 5, .int x_2]) (rest := []) ⟨hx, hb, hml, hown, hts⟩ (r_X14_need_2 l dC dI L kd tys fr_742 H.size g.2.2.2.1 a0_ ma0_ ka0_ 0 kb_0 5 x_2) (cwV 3 hts (gV_ t_2403 t_2405 t_100 t_198 t_2406) rfl rfl rfl (by decide +kernel) ⟨(show 1 + 1 ≤ N + 1 + 24 by omega), (show 8 + (4 + 11) + 22 ≤ 60 * (N + 1) + 700 by omega)⟩) (pre3V g hK ma0_ ka0_ (by decide) (q := (RX14, TX14, 67)) rfl) rfl hl.1 rfl (lv_room (Nat.le_of_ble_eq_true rfl)) dX14_readName_305 (cl_f hck_0) g hK (by decide) (by decide) (fx' := [(12, 58, q0_, .int y_732), (14, 6, a0_, .int x_18), (14, 10, a0_, .int x_8), (14, 2, a0_, .ref q0_), (14, 16, a0_, .int o_), (14, 25, a0_, .int op_)]) rfl (fun xr_798 fr_798 H locs mxr_798 kxr_798 hp hMr_798 g => ?_) (fun fr_798 H locs hp hMr_798 g => ?_)
                          · have hG_799 := isN.frame hMr_798 go_.2.2.2.1 ma0_ ka0_ (by decide) (by decide) hG_744
                            have hG_800 := cEq.frame hMr_798 go_.2.2.2.1 ma0_ ka0_ (by decide) (by decide) hG_745
                            have hG_801 := isV.frame hMr_798 go_.2.2.2.1 mq0_ kq0_ (by decide) (by decide) hG_746
                            have hG_802 := FR.frame hMr_798 go_.2.2.2.1 mq0_ kq0_ (by decide) (by decide) hG_747
                            subst hQ
                            exact leavesX hempty hlocks (fun t ht hW => g_thrX g hK mxr_798 kxr_798 (by omega) ht hW) g.2.2.1.2.2
                          · exact hp.elim
                        · have fc_796 := nle_f c_796
                          have b_803 : bd 1000 999 r_742 := ltL fc_796 b_793 kb_1000 (by decide)
                          exact bd_no b_803 (by decide)
                    · have b_804 : bd 2000 2007 r_742 := ⟨h_748.1, h_748.2⟩
                      have hv_805 : varOK V_ r_742 o_.toNatClampNeg := Or.inr (Or.inr h_748)
                      refine lv_istore (lv' := [(10, .int r_742), (9, .int 0), (8, .int t_), (6, .long x_4), (4, .long x_3), (3, .int x_2), (0, .ref a0_), (1, .int x1_), (2, .int x2_)]) hx hb dX14_readName_283 hl (by decide) rfl (fun ls hl => ?_)
                      refine lv_aload_n hx hb dX14_readName_285 rfl (lv_at hl 6 rfl) ?_
                      refine lv_iload_n hx hb dX14_readName_286 rfl (lv_at hl 8 rfl) ?_
                      refine lv_if_eq (tgt := 298) hx hb dX14_readName_287 (by decide) (fun c_806 => ?_) (fun c_806 => ?_)
                      · have fc_806 := eq_f c_806
                        exact absurd fc_806 fc_552
                      · have fc_806 := neq_f c_806
                        refine lv_iload hx hb dX14_readName_290 (lv_at hl 0 rfl) ?_
                        refine lv_sipush (v := 1000) hx hb dX14_readName_292 (by decide) ?_
                        have kb_1000 : bd 1000 1000 (1000 : Int32) := ⟨by decide, by decide⟩
                        refine lv_icmp_ge (tgt := 302) hx hb dX14_readName_295 (by decide) (fun c_807 => ?_) (fun c_807 => ?_)
                        · have fc_807 := le_f c_807
                          refine lv_iconst (v := 0) hx hb dX14_readName_302 (by decide) ?_
                          refine lv_iconst (v := 5) hx hb dX14_readName_303 (by decide) ?_
                          refine lv_iload_n hx hb dX14_readName_304 rfl (lv_at hl 5 rfl) ?_
                          have hs_808 := sE_1 g 1 rfl (by have h9_0 := bo_; unfold bd at h9_0; have h9_1 := bop_; unfold bd at h9_1; have h9_2 := b_804; unfold bd at h9_2; have h9_3 := bso_; unfold bd at h9_3; have h9_4 := b_720; unfold bd at h9_4; have h9_5 := b_691; unfold bd at h9_5; have h9_6 := b_553; unfold bd at h9_6; have h9_7 := h_19; unfold bd at h9_7; have h9_8 := bx_2; unfold bd at h9_8; have h9_9 := b_701; unfold bd at h9_9; have h9_10 := h_9; unfold bd at h9_10; have h9_11 := b_733; unfold bd at h9_11; have h8_0 := kb_0; unfold bd at h8_0; have h8_1 := kb_1; unfold bd at h8_1; have h8_2 := kb_1000; unfold bd at h8_2; have h8_3 := kb_1200; unfold bd at h8_3; have h8_4 := kb_2000; unfold bd at h8_4; omega)
                          have go_ := g
                          refine g_callEv (As := [.int 0, .int 5, .int x_2]) (rest := []) ⟨hx, hb, hml, hown, hts⟩ (r_X14_need_2 l dC dI L kd tys fr_742 H.size g.2.2.2.1 a0_ ma0_ ka0_ 0 kb_0 5 x_2) (cwV 3 hts (gV_ t_2403 t_2405 t_100 t_198 t_2406) rfl rfl rfl (by decide +kernel) ⟨(show 1 + 1 ≤ N + 1 + 24 by omega), (show 8 + (4 + 11) + 22 ≤ 60 * (N + 1) + 700 by omega)⟩) (pre3V g hK ma0_ ka0_ (by decide) (q := (RX14, TX14, 67)) rfl) rfl hl.1 rfl (lv_room (Nat.le_of_ble_eq_true rfl)) dX14_readName_305 (cl_f hck_0) g hK (by decide) (by decide) (fx' := [(12, 58, q0_, .int y_732), (14, 6, a0_, .int x_18), (14, 10, a0_, .int x_8), (14, 2, a0_, .ref q0_), (14, 16, a0_, .int o_), (14, 25, a0_, .int op_)]) rfl (fun xr_809 fr_809 H locs mxr_809 kxr_809 hp hMr_809 g => ?_) (fun fr_809 H locs hp hMr_809 g => ?_)
                          · have hG_810 := isN.frame hMr_809 go_.2.2.2.1 ma0_ ka0_ (by decide) (by decide) hG_744
                            have hG_811 := cEq.frame hMr_809 go_.2.2.2.1 ma0_ ka0_ (by decide) (by decide) hG_745
                            have hG_812 := isV.frame hMr_809 go_.2.2.2.1 mq0_ kq0_ (by decide) (by decide) hG_746
                            have hG_813 := FR.frame hMr_809 go_.2.2.2.1 mq0_ kq0_ (by decide) (by decide) hG_747
                            subst hQ
                            exact leavesX hempty hlocks (fun t ht hW => g_thrX g hK mxr_809 kxr_809 (by omega) ht hW) g.2.2.1.2.2
                          · exact hp.elim
                        · have fc_807 := nle_f c_807
                          have b_814 : bd 2000 999 r_742 := ltL fc_807 b_804 kb_1000 (by decide)
                          exact bd_no b_814 (by decide)
      refine lv_aload_n hx hb dX14_readName_47 rfl (lv_at hl 5 rfl) ?_
      refine lv_iload hx hb dX14_readName_48 (lv_at hl 0 rfl) ?_
      refine lv_if_eq (tgt := 71) hx hb dX14_readName_50 (by decide) (fun c_ => ?_) (fun c_ => absurd (by decide) c_)
      refine lv_aload_n hx hb dX14_readName_71 rfl (lv_at hl 5 rfl) ?_
      refine lv_lload hx hb dX14_readName_72 (lv_at hl 3 rfl) ?_
      refine lv_lload hx hb dX14_readName_74 (lv_at hl 2 rfl) ?_
      have hs_815 := sE_1 g 0 rfl (by have h9_0 := bo_; unfold bd at h9_0; have h9_1 := bop_; unfold bd at h9_1; have h9_2 := bso_; unfold bd at h9_2; have h9_3 := bt_; unfold bd at h9_3; have h9_4 := bx1_; unfold bd at h9_4; have h9_5 := b_553; unfold bd at h9_5; have h9_6 := h_19; unfold bd at h9_6; have h9_7 := bx_2; unfold bd at h9_7; have h9_8 := h_9; unfold bd at h9_8; have h8_0 := kb_0; unfold bd at h8_0; omega)
      have go_ := g
      refine g_calli (va_runV (As := [.long x_3, .long x_4]) (rest := [.ref a0_]) ⟨hx, hb, hml, hown, hts⟩ (r_X14_named_2 l dC dI L kd tys fr_15 H.size g.2.2.2.1 a0_ ma0_ ka0_ x_3 x_4 q0_ mq0_ kq0_ o_ bo_ V_ N_ hG_550 hG_548 (g.fcts [2, 3] rfl)) (cwV 2 hts (gV_ t_2504 t_2506 t_122 t_198 t_2507) rfl rfl rfl (by decide +kernel) ⟨(show 1 + 1 ≤ N + 1 + 24 by omega), (show 8 + (6 + 11) + 26 ≤ 60 * (N + 1) + 700 by omega)⟩) (pre3V g hK ma0_ ka0_ (by decide) (q := (RX14, TX14, 67)) rfl) rfl rfl hl.1 rfl (lv_room (Nat.le_of_ble_eq_true rfl)) dX14_readName_76 (cl_f hck_0)) g hK (by decide) (by decide) (fx' := [(14, 6, a0_, .int x_18), (14, 10, a0_, .int x_8), (14, 2, a0_, .ref q0_), (14, 16, a0_, .int o_), (14, 25, a0_, .int op_)]) rfl (fun r_816 fr_816 H locs hp hMr_816 g => ?_)
      obtain ⟨hx_817, -⟩ := hp
      have hG_818 := isV.frame hMr_816 go_.2.2.2.1 mq0_ kq0_ (by decide) (by decide) hG_548
      have hG_819 := FR.frame hMr_816 go_.2.2.2.1 mq0_ kq0_ (by decide) (by decide) hG_549
      have hG_820 := isN.frame hMr_816 go_.2.2.2.1 ma0_ ka0_ (by decide) (by decide) hG_550
      have hG_821 := cEq.frame hMr_816 go_.2.2.2.1 ma0_ ka0_ (by decide) (by decide) hG_551
      rcases hx_817 with ⟨h_822, hd_823⟩ | ⟨h_822 | h_822 | h_822, hd_823⟩
      · obtain rfl : r_816 = (-1) := Int32.toInt_inj.mp (h_822.trans (by decide))
        refine lv_iconst (v := (-1)) hx hb dX14_readName_79 (by decide) ?_
        refine lv_icmp_eq (tgt := 87) hx hb dX14_readName_80 (by decide) (fun c_ => ?_) (fun c_ => absurd (by decide) c_)
        refine lv_iconst (v := 0) hx hb dX14_readName_87 (by decide) ?_
        refine lv_iconst (v := 2) hx hb dX14_readName_88 (by decide) ?_
        refine lv_iload_n hx hb dX14_readName_89 rfl (lv_at hl 4 rfl) ?_
        have hs_824 := sE_1 g 0 rfl (by have h9_0 := bo_; unfold bd at h9_0; have h9_1 := bop_; unfold bd at h9_1; have h9_2 := bso_; unfold bd at h9_2; have h9_3 := bt_; unfold bd at h9_3; have h9_4 := bx1_; unfold bd at h9_4; have h9_5 := b_553; unfold bd at h9_5; have h9_6 := h_19; unfold bd at h9_6; have h9_7 := bx_2; unfold bd at h9_7; have h9_8 := h_9; unfold bd at h9_8; have h8_0 := kb_0; unfold bd at h8_0; omega)
        have go_ := g
        refine g_callEv (As := [.int 0, .int 2, .int x_2]) (rest := []) ⟨hx, hb, hml, hown, hts⟩ (r_X14_need_2 l dC dI L kd tys fr_816 H.size g.2.2.2.1 a0_ ma0_ ka0_ 0 kb_0 2 x_2) (cwV 3 hts (gV_ t_2403 t_2405 t_100 t_198 t_2406) rfl rfl rfl (by decide +kernel) ⟨(show 1 + 1 ≤ N + 1 + 24 by omega), (show 8 + (4 + 11) + 22 ≤ 60 * (N + 1) + 700 by omega)⟩) (pre3V g hK ma0_ ka0_ (by decide) (q := (RX14, TX14, 67)) rfl) rfl hl.1 rfl (lv_room (Nat.le_of_ble_eq_true rfl)) dX14_readName_90 (cl_f hck_0) g hK (by decide) (by decide) (fx' := [(14, 6, a0_, .int x_18), (14, 10, a0_, .int x_8), (14, 2, a0_, .ref q0_), (14, 16, a0_, .int o_), (14, 25, a0_, .int op_)]) rfl (fun xr_825 fr_825 H locs mxr_825 kxr_825 hp hMr_825 g => ?_) (fun fr_825 H locs hp hMr_825 g => ?_)
        · have hG_826 := isV.frame hMr_825 go_.2.2.2.1 mq0_ kq0_ (by decide) (by decide) hG_818
          have hG_827 := FR.frame hMr_825 go_.2.2.2.1 mq0_ kq0_ (by decide) (by decide) hG_819
          have hG_828 := isN.frame hMr_825 go_.2.2.2.1 ma0_ ka0_ (by decide) (by decide) hG_820
          have hG_829 := cEq.frame hMr_825 go_.2.2.2.1 ma0_ ka0_ (by decide) (by decide) hG_821
          subst hQ
          exact leavesX hempty hlocks (fun t ht hW => g_thrX g hK mxr_825 kxr_825 (by omega) ht hW) g.2.2.1.2.2
        · exact hp.elim
      · have b_830 : bd 0 9 r_816 := ⟨h_822.1, h_822.2.1⟩
        have hv_831 : varOK V_ r_816 o_.toNatClampNeg := Or.inl h_822
        refine lv_iconst (v := (-1)) hx hb dX14_readName_79 (by decide) ?_
        have kb_m1 : bd (-1) (-1) ((-1) : Int32) := ⟨by decide, by decide⟩
        refine lv_icmp_eq (tgt := 87) hx hb dX14_readName_80 (by decide) (fun c_832 => ?_) (fun c_832 => ?_)
        · have fc_832 := eq_f c_832
          have b_833 : bd 0 (-1) r_816 := eqX fc_832 b_830 kb_m1 (by decide)
          exact bd_no b_833 (by decide)
        · have fc_832 := neq_f c_832
          refine lv_iconst (v := 1) hx hb dX14_readName_83 (by decide) ?_
          refine lv_goto (tgt := 88) hx hb dX14_readName_84 (by decide) ?_
          refine lv_iconst (v := 2) hx hb dX14_readName_88 (by decide) ?_
          refine lv_iload_n hx hb dX14_readName_89 rfl (lv_at hl 4 rfl) ?_
          have hs_834 := sE_1 g 0 rfl (by have h9_0 := bo_; unfold bd at h9_0; have h9_1 := bop_; unfold bd at h9_1; have h9_2 := b_830; unfold bd at h9_2; have h9_3 := bso_; unfold bd at h9_3; have h9_4 := bt_; unfold bd at h9_4; have h9_5 := bx1_; unfold bd at h9_5; have h9_6 := b_553; unfold bd at h9_6; have h9_7 := h_19; unfold bd at h9_7; have h9_8 := bx_2; unfold bd at h9_8; have h9_9 := h_9; unfold bd at h9_9; have h8_0 := kb_0; unfold bd at h8_0; have h8_1 := kb_m1; unfold bd at h8_1; omega)
          have kb_1 : bd 1 1 (1 : Int32) := ⟨by decide, by decide⟩
          have go_ := g
          refine g_callEv (As := [.int 1, .int 2, .int x_2]) (rest := []) ⟨hx, hb, hml, hown, hts⟩ (r_X14_need_3 l dC dI L kd tys fr_816 H.size g.2.2.2.1 a0_ ma0_ ka0_ 1 kb_1 2 x_2) (cwV 3 hts (gV_ t_2403 t_2405 t_100 t_198 t_2406) rfl rfl rfl (by decide +kernel) ⟨(show 0 + 1 ≤ N + 1 + 24 by omega), (show 8 + (4 + 11) + 0 ≤ 60 * (N + 1) + 700 by omega)⟩) (pre3V g hK ma0_ ka0_ (by decide) (q := (RX14, TX14, 67)) rfl) rfl hl.1 rfl (lv_room (Nat.le_of_ble_eq_true rfl)) dX14_readName_90 (cl_f hck_0) g hK (by decide) (by decide) (fx' := [(14, 6, a0_, .int x_18), (14, 10, a0_, .int x_8), (14, 2, a0_, .ref q0_), (14, 16, a0_, .int o_), (14, 25, a0_, .int op_)]) rfl (fun xr_835 fr_835 H locs mxr_835 kxr_835 hp hMr_835 g => ?_) (fun fr_835 H locs hp hMr_835 g => ?_)
          · have hG_836 := isV.frame hMr_835 go_.2.2.2.1 mq0_ kq0_ (by decide) (by decide) hG_818
            have hG_837 := FR.frame hMr_835 go_.2.2.2.1 mq0_ kq0_ (by decide) (by decide) hG_819
            have hG_838 := isN.frame hMr_835 go_.2.2.2.1 ma0_ ka0_ (by decide) (by decide) hG_820
            have hG_839 := cEq.frame hMr_835 go_.2.2.2.1 ma0_ ka0_ (by decide) (by decide) hG_821
            exact hp.elim
          · have hG_840 := isV.frame hMr_835 go_.2.2.2.1 mq0_ kq0_ (by decide) (by decide) hG_818
            have hG_841 := FR.frame hMr_835 go_.2.2.2.1 mq0_ kq0_ (by decide) (by decide) hG_819
            have hG_842 := isN.frame hMr_835 go_.2.2.2.1 ma0_ ka0_ (by decide) (by decide) hG_820
            have hG_843 := cEq.frame hMr_835 go_.2.2.2.1 ma0_ ka0_ (by decide) (by decide) hG_821
            have hl9 := lv_sub hl [0, 1, 2, 3, 4, 5, 6, 7] (by rfl : lv_pick [(9, .int 0), (8, .int t_), (6, .long x_4), (4, .long x_3), (3, .int x_2), (0, .ref a0_), (1, .int x1_), (2, .int x2_)] [0, 1, 2, 3, 4, 5, 6, 7] = [(9, .int 0), (8, .int t_), (6, .long x_4), (4, .long x_3), (3, .int x_2), (0, .ref a0_), (1, .int x1_), (2, .int x2_)])
            have g9 := g.sub (fx' := [(14, 6, a0_, .int x_18), (14, 10, a0_, .int x_8), (14, 2, a0_, .ref q0_), (14, 16, a0_, .int o_), (14, 25, a0_, .int op_)]) [0, 1, 2, 3, 4] rfl
            exact join_554  _ _ _ _  g9 hG_840 hG_841 hG_842 hG_843 hd_823 hl9
      · have b_844 : bd 1000 1002 r_816 := ⟨h_822.1, h_822.2⟩
        have hv_845 : varOK V_ r_816 o_.toNatClampNeg := Or.inr (Or.inl h_822)
        refine lv_iconst (v := (-1)) hx hb dX14_readName_79 (by decide) ?_
        have kb_m1 : bd (-1) (-1) ((-1) : Int32) := ⟨by decide, by decide⟩
        refine lv_icmp_eq (tgt := 87) hx hb dX14_readName_80 (by decide) (fun c_846 => ?_) (fun c_846 => ?_)
        · have fc_846 := eq_f c_846
          have b_847 : bd 1000 (-1) r_816 := eqX fc_846 b_844 kb_m1 (by decide)
          exact bd_no b_847 (by decide)
        · have fc_846 := neq_f c_846
          refine lv_iconst (v := 1) hx hb dX14_readName_83 (by decide) ?_
          refine lv_goto (tgt := 88) hx hb dX14_readName_84 (by decide) ?_
          refine lv_iconst (v := 2) hx hb dX14_readName_88 (by decide) ?_
          refine lv_iload_n hx hb dX14_readName_89 rfl (lv_at hl 4 rfl) ?_
          have hs_848 := sE_1 g 0 rfl (by have h9_0 := bo_; unfold bd at h9_0; have h9_1 := bop_; unfold bd at h9_1; have h9_2 := b_844; unfold bd at h9_2; have h9_3 := bso_; unfold bd at h9_3; have h9_4 := bt_; unfold bd at h9_4; have h9_5 := bx1_; unfold bd at h9_5; have h9_6 := b_553; unfold bd at h9_6; have h9_7 := h_19; unfold bd at h9_7; have h9_8 := bx_2; unfold bd at h9_8; have h9_9 := h_9; unfold bd at h9_9; have h8_0 := kb_0; unfold bd at h8_0; have h8_1 := kb_m1; unfold bd at h8_1; omega)
          have kb_1 : bd 1 1 (1 : Int32) := ⟨by decide, by decide⟩
          have go_ := g
          refine g_callEv (As := [.int 1, .int 2, .int x_2]) (rest := []) ⟨hx, hb, hml, hown, hts⟩ (r_X14_need_3 l dC dI L kd tys fr_816 H.size g.2.2.2.1 a0_ ma0_ ka0_ 1 kb_1 2 x_2) (cwV 3 hts (gV_ t_2403 t_2405 t_100 t_198 t_2406) rfl rfl rfl (by decide +kernel) ⟨(show 0 + 1 ≤ N + 1 + 24 by omega), (show 8 + (4 + 11) + 0 ≤ 60 * (N + 1) + 700 by omega)⟩) (pre3V g hK ma0_ ka0_ (by decide) (q := (RX14, TX14, 67)) rfl) rfl hl.1 rfl (lv_room (Nat.le_of_ble_eq_true rfl)) dX14_readName_90 (cl_f hck_0) g hK (by decide) (by decide) (fx' := [(14, 6, a0_, .int x_18), (14, 10, a0_, .int x_8), (14, 2, a0_, .ref q0_), (14, 16, a0_, .int o_), (14, 25, a0_, .int op_)]) rfl (fun xr_849 fr_849 H locs mxr_849 kxr_849 hp hMr_849 g => ?_) (fun fr_849 H locs hp hMr_849 g => ?_)
          · have hG_850 := isV.frame hMr_849 go_.2.2.2.1 mq0_ kq0_ (by decide) (by decide) hG_818
            have hG_851 := FR.frame hMr_849 go_.2.2.2.1 mq0_ kq0_ (by decide) (by decide) hG_819
            have hG_852 := isN.frame hMr_849 go_.2.2.2.1 ma0_ ka0_ (by decide) (by decide) hG_820
            have hG_853 := cEq.frame hMr_849 go_.2.2.2.1 ma0_ ka0_ (by decide) (by decide) hG_821
            exact hp.elim
          · have hG_854 := isV.frame hMr_849 go_.2.2.2.1 mq0_ kq0_ (by decide) (by decide) hG_818
            have hG_855 := FR.frame hMr_849 go_.2.2.2.1 mq0_ kq0_ (by decide) (by decide) hG_819
            have hG_856 := isN.frame hMr_849 go_.2.2.2.1 ma0_ ka0_ (by decide) (by decide) hG_820
            have hG_857 := cEq.frame hMr_849 go_.2.2.2.1 ma0_ ka0_ (by decide) (by decide) hG_821
            have hl9 := lv_sub hl [0, 1, 2, 3, 4, 5, 6, 7] (by rfl : lv_pick [(9, .int 0), (8, .int t_), (6, .long x_4), (4, .long x_3), (3, .int x_2), (0, .ref a0_), (1, .int x1_), (2, .int x2_)] [0, 1, 2, 3, 4, 5, 6, 7] = [(9, .int 0), (8, .int t_), (6, .long x_4), (4, .long x_3), (3, .int x_2), (0, .ref a0_), (1, .int x1_), (2, .int x2_)])
            have g9 := g.sub (fx' := [(14, 6, a0_, .int x_18), (14, 10, a0_, .int x_8), (14, 2, a0_, .ref q0_), (14, 16, a0_, .int o_), (14, 25, a0_, .int op_)]) [0, 1, 2, 3, 4] rfl
            exact join_554  _ _ _ _  g9 hG_854 hG_855 hG_856 hG_857 hd_823 hl9
      · have b_858 : bd 2000 2007 r_816 := ⟨h_822.1, h_822.2⟩
        have hv_859 : varOK V_ r_816 o_.toNatClampNeg := Or.inr (Or.inr h_822)
        refine lv_iconst (v := (-1)) hx hb dX14_readName_79 (by decide) ?_
        have kb_m1 : bd (-1) (-1) ((-1) : Int32) := ⟨by decide, by decide⟩
        refine lv_icmp_eq (tgt := 87) hx hb dX14_readName_80 (by decide) (fun c_860 => ?_) (fun c_860 => ?_)
        · have fc_860 := eq_f c_860
          have b_861 : bd 2000 (-1) r_816 := eqX fc_860 b_858 kb_m1 (by decide)
          exact bd_no b_861 (by decide)
        · have fc_860 := neq_f c_860
          refine lv_iconst (v := 1) hx hb dX14_readName_83 (by decide) ?_
          refine lv_goto (tgt := 88) hx hb dX14_readName_84 (by decide) ?_
          refine lv_iconst (v := 2) hx hb dX14_readName_88 (by decide) ?_
          refine lv_iload_n hx hb dX14_readName_89 rfl (lv_at hl 4 rfl) ?_
          have hs_862 := sE_1 g 0 rfl (by have h9_0 := bo_; unfold bd at h9_0; have h9_1 := bop_; unfold bd at h9_1; have h9_2 := b_858; unfold bd at h9_2; have h9_3 := bso_; unfold bd at h9_3; have h9_4 := bt_; unfold bd at h9_4; have h9_5 := bx1_; unfold bd at h9_5; have h9_6 := b_553; unfold bd at h9_6; have h9_7 := h_19; unfold bd at h9_7; have h9_8 := bx_2; unfold bd at h9_8; have h9_9 := h_9; unfold bd at h9_9; have h8_0 := kb_0; unfold bd at h8_0; have h8_1 := kb_m1; unfold bd at h8_1; omega)
          have kb_1 : bd 1 1 (1 : Int32) := ⟨by decide, by decide⟩
          have go_ := g
          refine g_callEv (As := [.int 1, .int 2, .int x_2]) (rest := []) ⟨hx, hb, hml, hown, hts⟩ (r_X14_need_3 l dC dI L kd tys fr_816 H.size g.2.2.2.1 a0_ ma0_ ka0_ 1 kb_1 2 x_2) (cwV 3 hts (gV_ t_2403 t_2405 t_100 t_198 t_2406) rfl rfl rfl (by decide +kernel) ⟨(show 0 + 1 ≤ N + 1 + 24 by omega), (show 8 + (4 + 11) + 0 ≤ 60 * (N + 1) + 700 by omega)⟩) (pre3V g hK ma0_ ka0_ (by decide) (q := (RX14, TX14, 67)) rfl) rfl hl.1 rfl (lv_room (Nat.le_of_ble_eq_true rfl)) dX14_readName_90 (cl_f hck_0) g hK (by decide) (by decide) (fx' := [(14, 6, a0_, .int x_18), (14, 10, a0_, .int x_8), (14, 2, a0_, .ref q0_), (14, 16, a0_, .int o_), (14, 25, a0_, .int op_)]) rfl (fun xr_863 fr_863 H locs mxr_863 kxr_863 hp hMr_863 g => ?_) (fun fr_863 H locs hp hMr_863 g => ?_)
          · have hG_864 := isV.frame hMr_863 go_.2.2.2.1 mq0_ kq0_ (by decide) (by decide) hG_818
            have hG_865 := FR.frame hMr_863 go_.2.2.2.1 mq0_ kq0_ (by decide) (by decide) hG_819
            have hG_866 := isN.frame hMr_863 go_.2.2.2.1 ma0_ ka0_ (by decide) (by decide) hG_820
            have hG_867 := cEq.frame hMr_863 go_.2.2.2.1 ma0_ ka0_ (by decide) (by decide) hG_821
            exact hp.elim
          · have hG_868 := isV.frame hMr_863 go_.2.2.2.1 mq0_ kq0_ (by decide) (by decide) hG_818
            have hG_869 := FR.frame hMr_863 go_.2.2.2.1 mq0_ kq0_ (by decide) (by decide) hG_819
            have hG_870 := isN.frame hMr_863 go_.2.2.2.1 ma0_ ka0_ (by decide) (by decide) hG_820
            have hG_871 := cEq.frame hMr_863 go_.2.2.2.1 ma0_ ka0_ (by decide) (by decide) hG_821
            have hl9 := lv_sub hl [0, 1, 2, 3, 4, 5, 6, 7] (by rfl : lv_pick [(9, .int 0), (8, .int t_), (6, .long x_4), (4, .long x_3), (3, .int x_2), (0, .ref a0_), (1, .int x1_), (2, .int x2_)] [0, 1, 2, 3, 4, 5, 6, 7] = [(9, .int 0), (8, .int t_), (6, .long x_4), (4, .long x_3), (3, .int x_2), (0, .ref a0_), (1, .int x1_), (2, .int x2_)])
            have g9 := g.sub (fx' := [(14, 6, a0_, .int x_18), (14, 10, a0_, .int x_8), (14, 2, a0_, .ref q0_), (14, 16, a0_, .int o_), (14, 25, a0_, .int op_)]) [0, 1, 2, 3, 4] rfl
            exact join_554  _ _ _ _  g9 hG_868 hG_869 hG_870 hG_871 hd_823 hl9
    · have fc_552 := eq_f c_552
      have b_872 : bd 0 0 x2_ := eqX fc_552 bx2_ kb_0 (by decide)
      refine lv_iconst (v := 1) hx hb dX14_readName_40 (by decide) ?_
      refine lv_goto (tgt := 45) hx hb dX14_readName_41 (by decide) ?_
      refine lv_istore (lv' := [(9, .int 1), (8, .int t_), (6, .long x_4), (4, .long x_3), (3, .int x_2), (0, .ref a0_), (1, .int x1_), (2, .int x2_)]) hx hb dX14_readName_45 hl (by decide) rfl (fun ls hl => ?_)
      refine lv_aload_n hx hb dX14_readName_47 rfl (lv_at hl 5 rfl) ?_
      refine lv_iload hx hb dX14_readName_48 (lv_at hl 0 rfl) ?_
      refine lv_if_eq (tgt := 71) hx hb dX14_readName_50 (by decide) (fun c_ => absurd c_ (by decide)) (fun c_ => ?_)
      refine lv_aload_n hx hb dX14_readName_53 rfl (lv_at hl 5 rfl) ?_
      refine g_getk (C := RX14) (T := TX14) (N := 67) hx hb hts (mc_ inX14) hown hK g rfl 2 (by decide) rfl (hts _ (List.mem_cons_of_mem _ t_2148)) (fun _ h9 => h9) 2 rfl dX14_readName_54 ?_
      refine lv_aload_n hx hb dX14_readName_57 rfl (lv_at hl 5 rfl) ?_
      refine g_getk (C := RX14) (T := TX14) (N := 67) hx hb hts (mc_ inX14) hown hK g rfl 16 (by decide) rfl (hts _ (List.mem_cons_of_mem _ t_2162)) (fun _ h9 => h9) 3 rfl dX14_readName_58 ?_
      refine lv_lload hx hb dX14_readName_61 (lv_at hl 3 rfl) ?_
      refine lv_lload hx hb dX14_readName_63 (lv_at hl 2 rfl) ?_
      have hs_873 := sE_1 g 0 rfl (by have h9_0 := bo_; unfold bd at h9_0; have h9_1 := bop_; unfold bd at h9_1; have h9_2 := bso_; unfold bd at h9_2; have h9_3 := bt_; unfold bd at h9_3; have h9_4 := bx1_; unfold bd at h9_4; have h9_5 := b_872; unfold bd at h9_5; have h9_6 := h_19; unfold bd at h9_6; have h9_7 := bx_2; unfold bd at h9_7; have h9_8 := h_9; unfold bd at h9_8; have h8_0 := kb_0; unfold bd at h8_0; omega)
      have go_ := g
      refine g_calli (va_runV (As := [.int o_, .long x_3, .long x_4]) (rest := [.ref a0_]) ⟨hx, hb, hml, hown, hts⟩ (r_X12_findN l dC dI L kd tys fr_15 H.size g.2.2.2.1 q0_ mq0_ kq0_ o_ (bd_sub bo_ (by decide)) x_3 x_4 V_ hG_548) (cwV 3 hts (gV_ t_2500 t_2501 t_2502 t_203 t_2503) rfl rfl rfl (by decide +kernel) ⟨(show 0 + 1 ≤ N + 1 + 24 by omega), (show 8 + (7 + 11) + 0 ≤ 60 * (N + 1) + 700 by omega)⟩) (pre3V g hK mq0_ kq0_ (by decide) (q := (RX12, TX12, 60)) rfl) rfl rfl hl.1 rfl (lv_room (Nat.le_of_ble_eq_true rfl)) dX14_readName_65 (cl_f hck_0)) g hK (by decide) (by decide) (fx' := [(14, 6, a0_, .int x_18), (14, 10, a0_, .int x_8), (14, 2, a0_, .ref q0_), (14, 16, a0_, .int o_), (14, 25, a0_, .int op_)]) rfl (fun r_874 fr_874 H locs hp hMr_874 g => ?_)
      rcases hp with ⟨hx_875, h_876, -⟩ | ⟨hx_877, h_878, -⟩
      · have hG_879 := isV.frame hMr_874 go_.2.2.2.1 mq0_ kq0_ (by decide) (by decide) hG_548
        have hG_880 := FR.frame hMr_874 go_.2.2.2.1 mq0_ kq0_ (by decide) (by decide) hG_549
        have hG_881 := isN.frame hMr_874 go_.2.2.2.1 ma0_ ka0_ (by decide) (by decide) hG_550
        have hG_882 := cEq.frame hMr_874 go_.2.2.2.1 ma0_ ka0_ (by decide) (by decide) hG_551
        obtain rfl : r_874 = (-1) := h_876
        refine lv_goto (tgt := 79) hx hb dX14_readName_68 (by decide) ?_
        refine lv_iconst (v := (-1)) hx hb dX14_readName_79 (by decide) ?_
        refine lv_icmp_eq (tgt := 87) hx hb dX14_readName_80 (by decide) (fun c_ => ?_) (fun c_ => absurd (by decide) c_)
        refine lv_iconst (v := 0) hx hb dX14_readName_87 (by decide) ?_
        refine lv_iconst (v := 2) hx hb dX14_readName_88 (by decide) ?_
        refine lv_iload_n hx hb dX14_readName_89 rfl (lv_at hl 4 rfl) ?_
        have hs_883 := sE_1 g 0 rfl (by have h9_0 := bo_; unfold bd at h9_0; have h9_1 := bop_; unfold bd at h9_1; have h9_2 := bso_; unfold bd at h9_2; have h9_3 := bt_; unfold bd at h9_3; have h9_4 := bx1_; unfold bd at h9_4; have h9_5 := b_872; unfold bd at h9_5; have h9_6 := h_19; unfold bd at h9_6; have h9_7 := bx_2; unfold bd at h9_7; have h9_8 := h_9; unfold bd at h9_8; have h8_0 := kb_0; unfold bd at h8_0; omega)
        have go_ := g
        refine g_callEv (As := [.int 0, .int 2, .int x_2]) (rest := []) ⟨hx, hb, hml, hown, hts⟩ (r_X14_need_2 l dC dI L kd tys fr_874 H.size g.2.2.2.1 a0_ ma0_ ka0_ 0 kb_0 2 x_2) (cwV 3 hts (gV_ t_2403 t_2405 t_100 t_198 t_2406) rfl rfl rfl (by decide +kernel) ⟨(show 1 + 1 ≤ N + 1 + 24 by omega), (show 8 + (4 + 11) + 22 ≤ 60 * (N + 1) + 700 by omega)⟩) (pre3V g hK ma0_ ka0_ (by decide) (q := (RX14, TX14, 67)) rfl) rfl hl.1 rfl (lv_room (Nat.le_of_ble_eq_true rfl)) dX14_readName_90 (cl_f hck_0) g hK (by decide) (by decide) (fx' := [(14, 6, a0_, .int x_18), (14, 10, a0_, .int x_8), (14, 2, a0_, .ref q0_), (14, 16, a0_, .int o_), (14, 25, a0_, .int op_)]) rfl (fun xr_884 fr_884 H locs mxr_884 kxr_884 hp hMr_884 g => ?_) (fun fr_884 H locs hp hMr_884 g => ?_)
        · have hG_885 := isV.frame hMr_884 go_.2.2.2.1 mq0_ kq0_ (by decide) (by decide) hG_879
          have hG_886 := FR.frame hMr_884 go_.2.2.2.1 mq0_ kq0_ (by decide) (by decide) hG_880
          have hG_887 := isN.frame hMr_884 go_.2.2.2.1 ma0_ ka0_ (by decide) (by decide) hG_881
          have hG_888 := cEq.frame hMr_884 go_.2.2.2.1 ma0_ ka0_ (by decide) (by decide) hG_882
          subst hQ
          exact leavesX hempty hlocks (fun t ht hW => g_thrX g hK mxr_884 kxr_884 (by omega) ht hW) g.2.2.1.2.2
        · exact hp.elim
      · have hG_889 := isV.frame hMr_874 go_.2.2.2.1 mq0_ kq0_ (by decide) (by decide) hG_548
        have hG_890 := FR.frame hMr_874 go_.2.2.2.1 mq0_ kq0_ (by decide) (by decide) hG_549
        have hG_891 := isN.frame hMr_874 go_.2.2.2.1 ma0_ ka0_ (by decide) (by decide) hG_550
        have hG_892 := cEq.frame hMr_874 go_.2.2.2.1 ma0_ ka0_ (by decide) (by decide) hG_551
        have hf_893 := hx_877.fnd_
        refine lv_goto (tgt := 79) hx hb dX14_readName_68 (by decide) ?_
        refine lv_iconst (v := (-1)) hx hb dX14_readName_79 (by decide) ?_
        have kb_m1 : bd (-1) (-1) ((-1) : Int32) := ⟨by decide, by decide⟩
        refine lv_icmp_eq (tgt := 87) hx hb dX14_readName_80 (by decide) (fun c_894 => ?_) (fun c_894 => ?_)
        · have fc_894 := eq_f c_894
          have b_895 : bd 0 (-1) r_874 := eqX fc_894 h_878 kb_m1 (by decide)
          exact bd_no b_895 (by decide)
        · have fc_894 := neq_f c_894
          refine lv_iconst (v := 1) hx hb dX14_readName_83 (by decide) ?_
          refine lv_goto (tgt := 88) hx hb dX14_readName_84 (by decide) ?_
          refine lv_iconst (v := 2) hx hb dX14_readName_88 (by decide) ?_
          refine lv_iload_n hx hb dX14_readName_89 rfl (lv_at hl 4 rfl) ?_
          have hs_896 := sE_1 g 0 rfl (by have h9_0 := bo_; unfold bd at h9_0; have h9_1 := bop_; unfold bd at h9_1; have h9_2 := h_878; unfold bd at h9_2; have h9_3 := bso_; unfold bd at h9_3; have h9_4 := bt_; unfold bd at h9_4; have h9_5 := bx1_; unfold bd at h9_5; have h9_6 := b_872; unfold bd at h9_6; have h9_7 := h_19; unfold bd at h9_7; have h9_8 := bx_2; unfold bd at h9_8; have h9_9 := h_9; unfold bd at h9_9; have h8_0 := kb_0; unfold bd at h8_0; have h8_1 := kb_m1; unfold bd at h8_1; omega)
          have kb_1 : bd 1 1 (1 : Int32) := ⟨by decide, by decide⟩
          have go_ := g
          refine g_callEv (As := [.int 1, .int 2, .int x_2]) (rest := []) ⟨hx, hb, hml, hown, hts⟩ (r_X14_need_3 l dC dI L kd tys fr_874 H.size g.2.2.2.1 a0_ ma0_ ka0_ 1 kb_1 2 x_2) (cwV 3 hts (gV_ t_2403 t_2405 t_100 t_198 t_2406) rfl rfl rfl (by decide +kernel) ⟨(show 0 + 1 ≤ N + 1 + 24 by omega), (show 8 + (4 + 11) + 0 ≤ 60 * (N + 1) + 700 by omega)⟩) (pre3V g hK ma0_ ka0_ (by decide) (q := (RX14, TX14, 67)) rfl) rfl hl.1 rfl (lv_room (Nat.le_of_ble_eq_true rfl)) dX14_readName_90 (cl_f hck_0) g hK (by decide) (by decide) (fx' := [(14, 6, a0_, .int x_18), (14, 10, a0_, .int x_8), (14, 2, a0_, .ref q0_), (14, 16, a0_, .int o_), (14, 25, a0_, .int op_)]) rfl (fun xr_897 fr_897 H locs mxr_897 kxr_897 hp hMr_897 g => ?_) (fun fr_897 H locs hp hMr_897 g => ?_)
          · have hG_898 := isV.frame hMr_897 go_.2.2.2.1 mq0_ kq0_ (by decide) (by decide) hG_889
            have hG_899 := FR.frame hMr_897 go_.2.2.2.1 mq0_ kq0_ (by decide) (by decide) hG_890
            have hG_900 := isN.frame hMr_897 go_.2.2.2.1 ma0_ ka0_ (by decide) (by decide) hG_891
            have hG_901 := cEq.frame hMr_897 go_.2.2.2.1 ma0_ ka0_ (by decide) (by decide) hG_892
            exact hp.elim
          · have hG_902 := isV.frame hMr_897 go_.2.2.2.1 mq0_ kq0_ (by decide) (by decide) hG_889
            have hG_903 := FR.frame hMr_897 go_.2.2.2.1 mq0_ kq0_ (by decide) (by decide) hG_890
            have hG_904 := isN.frame hMr_897 go_.2.2.2.1 ma0_ ka0_ (by decide) (by decide) hG_891
            have hG_905 := cEq.frame hMr_897 go_.2.2.2.1 ma0_ ka0_ (by decide) (by decide) hG_892
            refine lv_aload_n hx hb dX14_readName_93 rfl (lv_at hl 5 rfl) ?_
            refine lv_iload_n hx hb dX14_readName_94 rfl (lv_at hl 6 rfl) ?_
            refine lv_if_eq (tgt := 119) hx hb dX14_readName_95 (by decide) (fun c_906 => ?_) (fun c_906 => ?_)
            · have fc_906 := eq_f c_906
              have b_907 : bd 0 0 x1_ := eqX fc_906 bx1_ kb_0 (by decide)
              refine lv_aload_n hx hb dX14_readName_119 rfl (lv_at hl 5 rfl) ?_
              refine g_getk (C := RX14) (T := TX14) (N := 67) hx hb hts (mc_ inX14) hown hK g rfl 2 (by decide) rfl (hts _ (List.mem_cons_of_mem _ t_2148)) (fun _ h9 => h9) 2 rfl dX14_readName_120 ?_
              refine g_getr (K := 180) (C := RX12) (T := TX12) (N := 60) hx hb hts (mc_ inX12) hown hK g mq0_ kq0_ (by decide) rfl 24 (by decide) rfl (hts _ (List.mem_cons_of_mem _ t_1954)) (fun _ h9 => h9) rfl dX14_readName_123 (fun a_908 ma_908 ka_908 g => ?_)
              refine lv_aload_n hx hb dX14_readName_126 rfl (lv_at hl 5 rfl) ?_
              refine g_geti (C := RX14) (T := TX14) (N := 67) hx hb hts (mc_ inX14) hown hK g ma0_ ka0_ (by decide) rfl 17 (by decide) rfl (hts _ (List.mem_cons_of_mem _ t_2163)) (fun _ h9 => h9) rfl dX14_readName_127 (fun x_909 bx_909 g => ?_)
              refine g_iald hx hb hK g ma_908 ka_908 (by decide) rfl (in_bd bx_909 (by decide)) dX14_readName_130 (fun x_910 bx_910 cx_910 => ?_)
              have vx_910 : x_910 = V_.i 24 x_909.toNatClampNeg := hG_902.at g 1 rfl rfl cx_910
              refine lv_bipush (v := 40) hx hb dX14_readName_131 (by decide) ?_
              have kb_40 : bd 40 40 (40 : Int32) := ⟨by decide, by decide⟩
              refine lv_icmp_ge (tgt := 140) hx hb dX14_readName_133 (by decide) (fun c_911 => ?_) (fun c_911 => ?_)
              · have fc_911 := le_f c_911
                have b_912 : bd 40 40 x_910 := leR fc_911 kb_40 bx_910 (by decide)
                refine lv_iconst (v := 0) hx hb dX14_readName_140 (by decide) ?_
                refine lv_iconst (v := 4) hx hb dX14_readName_141 (by decide) ?_
                refine lv_iload_n hx hb dX14_readName_142 rfl (lv_at hl 4 rfl) ?_
                have hs_913 := sE_1 g 2 rfl (by have h9_0 := bo_; unfold bd at h9_0; have h9_1 := bop_; unfold bd at h9_1; have h9_2 := h_878; unfold bd at h9_2; have h9_3 := bso_; unfold bd at h9_3; have h9_4 := bt_; unfold bd at h9_4; have h9_5 := b_907; unfold bd at h9_5; have h9_6 := b_872; unfold bd at h9_6; have h9_7 := h_19; unfold bd at h9_7; have h9_8 := bx_2; unfold bd at h9_8; have h9_9 := h_9; unfold bd at h9_9; have h9_10 := bx_909; unfold bd at h9_10; have h9_11 := b_912; unfold bd at h9_11; have h8_0 := kb_0; unfold bd at h8_0; have h8_1 := kb_1; unfold bd at h8_1; have h8_2 := kb_40; unfold bd at h8_2; have h8_3 := kb_m1; unfold bd at h8_3; omega)
                have go_ := g
                refine g_callEv (As := [.int 0, .int 4, .int x_2]) (rest := []) ⟨hx, hb, hml, hown, hts⟩ (r_X14_need_2 l dC dI L kd tys fr_897 H.size g.2.2.2.1 a0_ ma0_ ka0_ 0 kb_0 4 x_2) (cwV 3 hts (gV_ t_2403 t_2405 t_100 t_198 t_2406) rfl rfl rfl (by decide +kernel) ⟨(show 1 + 1 ≤ N + 1 + 24 by omega), (show 8 + (4 + 11) + 22 ≤ 60 * (N + 1) + 700 by omega)⟩) (pre3V g hK ma0_ ka0_ (by decide) (q := (RX14, TX14, 67)) rfl) rfl hl.1 rfl (lv_room (Nat.le_of_ble_eq_true rfl)) dX14_readName_143 (cl_f hck_0) g hK (by decide) (by decide) (fx' := [(14, 17, a0_, .int x_909), (12, 24, q0_, .ref a_908), (14, 6, a0_, .int x_18), (14, 10, a0_, .int x_8), (14, 2, a0_, .ref q0_), (14, 16, a0_, .int o_), (14, 25, a0_, .int op_)]) rfl (fun xr_914 fr_914 H locs mxr_914 kxr_914 hp hMr_914 g => ?_) (fun fr_914 H locs hp hMr_914 g => ?_)
                · have hG_915 := isV.frame hMr_914 go_.2.2.2.1 mq0_ kq0_ (by decide) (by decide) hG_902
                  have hG_916 := FR.frame hMr_914 go_.2.2.2.1 mq0_ kq0_ (by decide) (by decide) hG_903
                  have hG_917 := isN.frame hMr_914 go_.2.2.2.1 ma0_ ka0_ (by decide) (by decide) hG_904
                  have hG_918 := cEq.frame hMr_914 go_.2.2.2.1 ma0_ ka0_ (by decide) (by decide) hG_905
                  subst hQ
                  exact leavesX hempty hlocks (fun t ht hW => g_thrX g hK mxr_914 kxr_914 (by omega) ht hW) g.2.2.1.2.2
                · exact hp.elim
              · have fc_911 := nle_f c_911
                have b_919 : bd 0 39 x_910 := ltL fc_911 bx_910 kb_40 (by decide)
                refine lv_iconst (v := 1) hx hb dX14_readName_136 (by decide) ?_
                refine lv_goto (tgt := 141) hx hb dX14_readName_137 (by decide) ?_
                refine lv_iconst (v := 4) hx hb dX14_readName_141 (by decide) ?_
                refine lv_iload_n hx hb dX14_readName_142 rfl (lv_at hl 4 rfl) ?_
                have hs_920 := sE_1 g 2 rfl (by have h9_0 := bo_; unfold bd at h9_0; have h9_1 := bop_; unfold bd at h9_1; have h9_2 := h_878; unfold bd at h9_2; have h9_3 := bso_; unfold bd at h9_3; have h9_4 := bt_; unfold bd at h9_4; have h9_5 := b_907; unfold bd at h9_5; have h9_6 := b_872; unfold bd at h9_6; have h9_7 := h_19; unfold bd at h9_7; have h9_8 := bx_2; unfold bd at h9_8; have h9_9 := h_9; unfold bd at h9_9; have h9_10 := bx_909; unfold bd at h9_10; have h9_11 := b_919; unfold bd at h9_11; have h8_0 := kb_0; unfold bd at h8_0; have h8_1 := kb_1; unfold bd at h8_1; have h8_2 := kb_40; unfold bd at h8_2; have h8_3 := kb_m1; unfold bd at h8_3; omega)
                have go_ := g
                refine g_callEv (As := [.int 1, .int 4, .int x_2]) (rest := []) ⟨hx, hb, hml, hown, hts⟩ (r_X14_need_3 l dC dI L kd tys fr_897 H.size g.2.2.2.1 a0_ ma0_ ka0_ 1 kb_1 4 x_2) (cwV 3 hts (gV_ t_2403 t_2405 t_100 t_198 t_2406) rfl rfl rfl (by decide +kernel) ⟨(show 0 + 1 ≤ N + 1 + 24 by omega), (show 8 + (4 + 11) + 0 ≤ 60 * (N + 1) + 700 by omega)⟩) (pre3V g hK ma0_ ka0_ (by decide) (q := (RX14, TX14, 67)) rfl) rfl hl.1 rfl (lv_room (Nat.le_of_ble_eq_true rfl)) dX14_readName_143 (cl_f hck_0) g hK (by decide) (by decide) (fx' := [(14, 17, a0_, .int x_909), (12, 24, q0_, .ref a_908), (14, 6, a0_, .int x_18), (14, 10, a0_, .int x_8), (14, 2, a0_, .ref q0_), (14, 16, a0_, .int o_), (14, 25, a0_, .int op_)]) rfl (fun xr_921 fr_921 H locs mxr_921 kxr_921 hp hMr_921 g => ?_) (fun fr_921 H locs hp hMr_921 g => ?_)
                · have hG_922 := isV.frame hMr_921 go_.2.2.2.1 mq0_ kq0_ (by decide) (by decide) hG_902
                  have hG_923 := FR.frame hMr_921 go_.2.2.2.1 mq0_ kq0_ (by decide) (by decide) hG_903
                  have hG_924 := isN.frame hMr_921 go_.2.2.2.1 ma0_ ka0_ (by decide) (by decide) hG_904
                  have hG_925 := cEq.frame hMr_921 go_.2.2.2.1 ma0_ ka0_ (by decide) (by decide) hG_905
                  exact hp.elim
                · have hG_926 := isV.frame hMr_921 go_.2.2.2.1 mq0_ kq0_ (by decide) (by decide) hG_902
                  have hG_927 := FR.frame hMr_921 go_.2.2.2.1 mq0_ kq0_ (by decide) (by decide) hG_903
                  have hG_928 := isN.frame hMr_921 go_.2.2.2.1 ma0_ ka0_ (by decide) (by decide) hG_904
                  have hG_929 := cEq.frame hMr_921 go_.2.2.2.1 ma0_ ka0_ (by decide) (by decide) hG_905
                  refine lv_aload_n hx hb dX14_readName_146 rfl (lv_at hl 5 rfl) ?_
                  refine lv_iload hx hb dX14_readName_147 (lv_at hl 1 rfl) ?_
                  refine lv_sipush (v := 1200) hx hb dX14_readName_149 (by decide) ?_
                  have kb_1200 : bd 1200 1200 (1200 : Int32) := ⟨by decide, by decide⟩
                  refine lv_icmp_gt (tgt := 159) hx hb dX14_readName_152 (by decide) (fun c_930 => ?_) (fun c_930 => ?_)
                  · have fc_930 := lt_f c_930
                    have b_931 : bd 1201 1201 t_ := ltR fc_930 kb_1200 bt_ (by decide)
                    refine lv_iconst (v := 0) hx hb dX14_readName_159 (by decide) ?_
                    refine lv_iconst (v := 4) hx hb dX14_readName_160 (by decide) ?_
                    refine lv_iload_n hx hb dX14_readName_161 rfl (lv_at hl 4 rfl) ?_
                    have hs_932 := sE_1 g 2 rfl (by have h9_0 := bo_; unfold bd at h9_0; have h9_1 := bop_; unfold bd at h9_1; have h9_2 := h_878; unfold bd at h9_2; have h9_3 := bso_; unfold bd at h9_3; have h9_4 := b_931; unfold bd at h9_4; have h9_5 := b_907; unfold bd at h9_5; have h9_6 := b_872; unfold bd at h9_6; have h9_7 := h_19; unfold bd at h9_7; have h9_8 := bx_2; unfold bd at h9_8; have h9_9 := h_9; unfold bd at h9_9; have h9_10 := bx_909; unfold bd at h9_10; have h9_11 := b_919; unfold bd at h9_11; have h8_0 := kb_0; unfold bd at h8_0; have h8_1 := kb_1; unfold bd at h8_1; have h8_2 := kb_1200; unfold bd at h8_2; have h8_3 := kb_40; unfold bd at h8_3; have h8_4 := kb_m1; unfold bd at h8_4; omega)
                    have go_ := g
                    refine g_callEv (As := [.int 0, .int 4, .int x_2]) (rest := []) ⟨hx, hb, hml, hown, hts⟩ (r_X14_need_2 l dC dI L kd tys fr_921 H.size g.2.2.2.1 a0_ ma0_ ka0_ 0 kb_0 4 x_2) (cwV 3 hts (gV_ t_2403 t_2405 t_100 t_198 t_2406) rfl rfl rfl (by decide +kernel) ⟨(show 1 + 1 ≤ N + 1 + 24 by omega), (show 8 + (4 + 11) + 22 ≤ 60 * (N + 1) + 700 by omega)⟩) (pre3V g hK ma0_ ka0_ (by decide) (q := (RX14, TX14, 67)) rfl) rfl hl.1 rfl (lv_room (Nat.le_of_ble_eq_true rfl)) dX14_readName_162 (cl_f hck_0) g hK (by decide) (by decide) (fx' := [(14, 17, a0_, .int x_909), (12, 24, q0_, .ref a_908), (14, 6, a0_, .int x_18), (14, 10, a0_, .int x_8), (14, 2, a0_, .ref q0_), (14, 16, a0_, .int o_), (14, 25, a0_, .int op_)]) rfl (fun xr_933 fr_933 H locs mxr_933 kxr_933 hp hMr_933 g => ?_) (fun fr_933 H locs hp hMr_933 g => ?_)
                    · have hG_934 := isV.frame hMr_933 go_.2.2.2.1 mq0_ kq0_ (by decide) (by decide) hG_926
                      have hG_935 := FR.frame hMr_933 go_.2.2.2.1 mq0_ kq0_ (by decide) (by decide) hG_927
                      have hG_936 := isN.frame hMr_933 go_.2.2.2.1 ma0_ ka0_ (by decide) (by decide) hG_928
                      have hG_937 := cEq.frame hMr_933 go_.2.2.2.1 ma0_ ka0_ (by decide) (by decide) hG_929
                      subst hQ
                      exact leavesX hempty hlocks (fun t ht hW => g_thrX g hK mxr_933 kxr_933 (by omega) ht hW) g.2.2.1.2.2
                    · exact hp.elim
                  · have fc_930 := nlt_f c_930
                    have b_938 : bd 0 1200 t_ := leL fc_930 bt_ kb_1200 (by decide)
                    refine lv_iconst (v := 1) hx hb dX14_readName_155 (by decide) ?_
                    refine lv_goto (tgt := 160) hx hb dX14_readName_156 (by decide) ?_
                    refine lv_iconst (v := 4) hx hb dX14_readName_160 (by decide) ?_
                    refine lv_iload_n hx hb dX14_readName_161 rfl (lv_at hl 4 rfl) ?_
                    have hs_939 := sE_1 g 2 rfl (by have h9_0 := bo_; unfold bd at h9_0; have h9_1 := bop_; unfold bd at h9_1; have h9_2 := h_878; unfold bd at h9_2; have h9_3 := bso_; unfold bd at h9_3; have h9_4 := b_938; unfold bd at h9_4; have h9_5 := b_907; unfold bd at h9_5; have h9_6 := b_872; unfold bd at h9_6; have h9_7 := h_19; unfold bd at h9_7; have h9_8 := bx_2; unfold bd at h9_8; have h9_9 := h_9; unfold bd at h9_9; have h9_10 := bx_909; unfold bd at h9_10; have h9_11 := b_919; unfold bd at h9_11; have h8_0 := kb_0; unfold bd at h8_0; have h8_1 := kb_1; unfold bd at h8_1; have h8_2 := kb_1200; unfold bd at h8_2; have h8_3 := kb_40; unfold bd at h8_3; have h8_4 := kb_m1; unfold bd at h8_4; omega)
                    have go_ := g
                    refine g_callEv (As := [.int 1, .int 4, .int x_2]) (rest := []) ⟨hx, hb, hml, hown, hts⟩ (r_X14_need_3 l dC dI L kd tys fr_921 H.size g.2.2.2.1 a0_ ma0_ ka0_ 1 kb_1 4 x_2) (cwV 3 hts (gV_ t_2403 t_2405 t_100 t_198 t_2406) rfl rfl rfl (by decide +kernel) ⟨(show 0 + 1 ≤ N + 1 + 24 by omega), (show 8 + (4 + 11) + 0 ≤ 60 * (N + 1) + 700 by omega)⟩) (pre3V g hK ma0_ ka0_ (by decide) (q := (RX14, TX14, 67)) rfl) rfl hl.1 rfl (lv_room (Nat.le_of_ble_eq_true rfl)) dX14_readName_162 (cl_f hck_0) g hK (by decide) (by decide) (fx' := [(14, 17, a0_, .int x_909), (12, 24, q0_, .ref a_908), (14, 6, a0_, .int x_18), (14, 10, a0_, .int x_8), (14, 2, a0_, .ref q0_), (14, 16, a0_, .int o_), (14, 25, a0_, .int op_)]) rfl (fun xr_940 fr_940 H locs mxr_940 kxr_940 hp hMr_940 g => ?_) (fun fr_940 H locs hp hMr_940 g => ?_)
                    · have hG_941 := isV.frame hMr_940 go_.2.2.2.1 mq0_ kq0_ (by decide) (by decide) hG_926
                      have hG_942 := FR.frame hMr_940 go_.2.2.2.1 mq0_ kq0_ (by decide) (by decide) hG_927
                      have hG_943 := isN.frame hMr_940 go_.2.2.2.1 ma0_ ka0_ (by decide) (by decide) hG_928
                      have hG_944 := cEq.frame hMr_940 go_.2.2.2.1 ma0_ ka0_ (by decide) (by decide) hG_929
                      exact hp.elim
                    · have hG_945 := isV.frame hMr_940 go_.2.2.2.1 mq0_ kq0_ (by decide) (by decide) hG_926
                      have hG_946 := FR.frame hMr_940 go_.2.2.2.1 mq0_ kq0_ (by decide) (by decide) hG_927
                      have hG_947 := isN.frame hMr_940 go_.2.2.2.1 ma0_ ka0_ (by decide) (by decide) hG_928
                      have hG_948 := cEq.frame hMr_940 go_.2.2.2.1 ma0_ ka0_ (by decide) (by decide) hG_929
                      refine lv_iload_n hx hb dX14_readName_165 rfl (lv_at hl 6 rfl) ?_
                      refine lv_if_eq (tgt := 185) hx hb dX14_readName_166 (by decide) (fun c_949 => ?_) (fun c_949 => ?_)
                      · have fc_949 := eq_f c_949
                        refine lv_aload_n hx hb dX14_readName_185 rfl (lv_at hl 5 rfl) ?_
                        refine g_getk (C := RX14) (T := TX14) (N := 67) hx hb hts (mc_ inX14) hown hK g rfl 2 (by decide) rfl (hts _ (List.mem_cons_of_mem _ t_2148)) (fun _ h9 => h9) 4 rfl dX14_readName_186 ?_
                        refine g_getk (C := RX12) (T := TX12) (N := 60) hx hb hts (mc_ inX12) hown hK g rfl 24 (by decide) rfl (hts _ (List.mem_cons_of_mem _ t_1954)) (fun _ h9 => h9) 1 rfl dX14_readName_189 ?_
                        refine lv_aload_n hx hb dX14_readName_192 rfl (lv_at hl 5 rfl) ?_
                        refine g_getk (C := RX14) (T := TX14) (N := 67) hx hb hts (mc_ inX14) hown hK g rfl 17 (by decide) rfl (hts _ (List.mem_cons_of_mem _ t_2163)) (fun _ h9 => h9) 0 rfl dX14_readName_193 ?_
                        refine lv_dup2_11 hx hb dX14_readName_196 rfl rfl ?_
                        refine g_iald hx hb hK g ma_908 ka_908 (by decide) rfl (in_bd bx_909 (by decide)) dX14_readName_197 (fun x_950 bx_950 cx_950 => ?_)
                        obtain rfl : x_910 = x_950 := el_same cx_910 cx_950 ((arr_eq hMr_940 ma_908 ka_908 (by decide) rfl).trans (arr_eq hMr_921 ma_908 ka_908 (by decide) rfl))
                        refine lv_iconst (v := 1) hx hb dX14_readName_198 (by decide) ?_
                        refine lv_iadd hx hb dX14_readName_199 ?_
                        refine lv_topi (fun y_951 ey_951 => ?_)
                        have ty_951 := add_bd ey_951 b_919 kb_1 (by decide)
                        have b_952 : bd 1 40 y_951 := add_rg ty_951 b_919 kb_1 (by decide)
                        have gp_953 := g
                        have go_ := g
                        refine g_iastX hx hb hK g ma_908 ka_908 (by decide) rfl (in_bd bx_909 (by decide)) (bd_sub b_952 (by decide)) (by decide) dX14_readName_200 (fun f H locs hM_954 u_957 g => ?_)
                        have hG_955 := isN.frame hM_954 go_.2.2.2.1 ma0_ ka0_ (by decide) (by decide) hG_947
                        have hG_956 := cEq.frame hM_954 go_.2.2.2.1 ma0_ ka0_ (by decide) (by decide) hG_948
                        have hV_958 := isV.ui hG_945 gp_953 1 rfl mq0_ kq0_ rfl u_957
                        have hF_959 := FR.arr hG_946 gp_953 1 rfl mq0_ kq0_ rfl rfl u_957.1
                        obtain ⟨V_960, hV_961, hX_962, hw_963, hn_964⟩ : ∃ V1 : PV, isV f q0_ V1 ∧ exN V_ V1 ∧ wfN V1 (V1.n 57).toInt ∧ (V1.n 57).toInt = (V_.n 57).toInt := ⟨_, hV_958, u24_ok hwf⟩
                        have hx_965 := exN.tr exN.rf hX_962
                        have hf_966 := (exN.fnd_ hX_962).mpr hf_893
                        refine lv_iload hx hb dX14_readName_201 (lv_at hl 0 rfl) ?_
                        refine lv_if_eq (tgt := 275) hx hb dX14_readName_203 (by decide) (fun c_ => absurd c_ (by decide)) (fun c_ => ?_)
                        refine lv_aload_n hx hb dX14_readName_206 rfl (lv_at hl 5 rfl) ?_
                        refine g_getk (C := RX14) (T := TX14) (N := 67) hx hb hts (mc_ inX14) hown hK g rfl 2 (by decide) rfl (hts _ (List.mem_cons_of_mem _ t_2148)) (fun _ h9 => h9) 4 rfl dX14_readName_207 ?_
                        refine lv_aload_n hx hb dX14_readName_210 rfl (lv_at hl 5 rfl) ?_
                        refine g_getk (C := RX14) (T := TX14) (N := 67) hx hb hts (mc_ inX14) hown hK g rfl 16 (by decide) rfl (hts _ (List.mem_cons_of_mem _ t_2162)) (fun _ h9 => h9) 5 rfl dX14_readName_211 ?_
                        refine lv_lload hx hb dX14_readName_214 (lv_at hl 3 rfl) ?_
                        refine lv_lload hx hb dX14_readName_216 (lv_at hl 2 rfl) ?_
                        have hs_967 := sE_1 g 2 rfl (by have h9_0 := bo_; unfold bd at h9_0; have h9_1 := bop_; unfold bd at h9_1; have h9_2 := h_878; unfold bd at h9_2; have h9_3 := bso_; unfold bd at h9_3; have h9_4 := b_938; unfold bd at h9_4; have h9_5 := b_907; unfold bd at h9_5; have h9_6 := b_872; unfold bd at h9_6; have h9_7 := h_19; unfold bd at h9_7; have h9_8 := bx_2; unfold bd at h9_8; have h9_9 := h_9; unfold bd at h9_9; have h9_10 := bx_909; unfold bd at h9_10; have h9_11 := b_919; unfold bd at h9_11; have h9_12 := bx_950; unfold bd at h9_12; have h9_13 := b_952; unfold bd at h9_13; have h8_0 := kb_0; unfold bd at h8_0; have h8_1 := kb_1; unfold bd at h8_1; have h8_2 := kb_1200; unfold bd at h8_2; have h8_3 := kb_40; unfold bd at h8_3; have h8_4 := kb_m1; unfold bd at h8_4; omega)
                        have go_ := g
                        refine g_calli (va_runV (As := [.int o_, .long x_3, .long x_4]) (rest := []) ⟨hx, hb, hml, hown, hts⟩ (r_X12_findN l dC dI L kd tys f H.size g.2.2.2.1 q0_ mq0_ kq0_ o_ (bd_sub bo_ (by decide)) x_3 x_4 V_960 hV_961) (cwV 3 hts (gV_ t_2500 t_2501 t_2502 t_203 t_2503) rfl rfl rfl (by decide +kernel) ⟨(show 0 + 1 ≤ N + 1 + 24 by omega), (show 8 + (7 + 11) + 0 ≤ 60 * (N + 1) + 700 by omega)⟩) (pre3V g hK mq0_ kq0_ (by decide) (q := (RX12, TX12, 60)) rfl) rfl rfl hl.1 rfl (lv_room (Nat.le_of_ble_eq_true rfl)) dX14_readName_218 (cl_f hck_0)) g hK (by decide) (by decide) (fx' := [(14, 17, a0_, .int x_909), (12, 24, q0_, .ref a_908), (14, 6, a0_, .int x_18), (14, 10, a0_, .int x_8), (14, 2, a0_, .ref q0_), (14, 16, a0_, .int o_), (14, 25, a0_, .int op_)]) rfl (fun r_968 fr_968 H locs hp hMr_968 g => ?_)
                        rcases hp with ⟨hx_969, h_970, -⟩ | ⟨hx_971, h_972, -⟩
                        · have hG_973 := isN.frame hMr_968 go_.2.2.2.1 ma0_ ka0_ (by decide) (by decide) hG_955
                          have hG_974 := cEq.frame hMr_968 go_.2.2.2.1 ma0_ ka0_ (by decide) (by decide) hG_956
                          have hG_975 := isV.frame hMr_968 go_.2.2.2.1 mq0_ kq0_ (by decide) (by decide) hV_961
                          have hG_976 := FR.frame hMr_968 go_.2.2.2.1 mq0_ kq0_ (by decide) (by decide) hF_959
                          obtain rfl : r_968 = (-1) := h_970
                          exact absurd hf_966 hx_969
                        · have hG_977 := isN.frame hMr_968 go_.2.2.2.1 ma0_ ka0_ (by decide) (by decide) hG_955
                          have hG_978 := cEq.frame hMr_968 go_.2.2.2.1 ma0_ ka0_ (by decide) (by decide) hG_956
                          have hG_979 := isV.frame hMr_968 go_.2.2.2.1 mq0_ kq0_ (by decide) (by decide) hV_961
                          have hG_980 := FR.frame hMr_968 go_.2.2.2.1 mq0_ kq0_ (by decide) (by decide) hF_959
                          have hf_981 := hx_971.fnd_
                          refine lv_istore (lv' := [(10, .int r_968), (9, .int 1), (8, .int t_), (6, .long x_4), (4, .long x_3), (3, .int x_2), (0, .ref a0_), (1, .int x1_), (2, .int x2_)]) hx hb dX14_readName_221 hl (by decide) rfl (fun ls hl => ?_)
                          have join_982 : ∀ (g261_14_22_a0_ : Int32) (f : Nat → va_E) (H : Heap) (locs : List Loc) (ls : Array Slot), bd 0 1 g261_14_22_a0_ → G3 (dC, dI) L kd tys s f0 [(12, 57), (12, 58), (14, 6), (14, 7), (14, 8), (14, 9), (14, 10), (14, 11), (14, 12), (14, 13), (14, 14), (14, 15), (14, 25)] [180, 201, 202, 203, 204, 205, 206, 207, 208, 209, 210] f H locs [(14, 22, a0_, .int g261_14_22_a0_), (14, 17, a0_, .int x_909), (12, 24, q0_, .ref a_908), (14, 6, a0_, .int x_18), (14, 10, a0_, .int x_8), (14, 2, a0_, .ref q0_), (14, 16, a0_, .int o_), (14, 25, a0_, .int op_)] → isN f a0_ N_ → cEq f a0_ E_14 → isV f q0_ V_960 → FR L kd f0 f q0_ → lv_has ls 11 [(10, .int r_968), (9, .int 1), (8, .int t_), (6, .long x_4), (4, .long x_3), (3, .int x_2), (0, .ref a0_), (1, .int x1_), (2, .int x2_)] → W p l e ({ frames := (N + 1) + 24, cells := K_, slots := 3 * K_, locals := 60 * (N + 1) + 700 } : Room) s m [.ref a0_, .int x1_, .int x2_].toArray below meth c H locs cl_0 (3 * cl_0) Q (F0 m 261 ls []) := by
                            intro g261_14_22_a0_ f H locs ls bg261_14_22_a0_ g hJ261_N_a0_ hJ261_C_a0_ hJ261_V_q0_ hJ261_F_q0_ hl
                            refine lv_aload_n hx hb dX14_readName_261 rfl (lv_at hl 6 rfl) ?_
                            refine lv_iconst (v := 3) hx hb dX14_readName_262 (by decide) ?_
                            refine lv_iload hx hb dX14_readName_263 (lv_at hl 0 rfl) ?_
                            refine lv_lload hx hb dX14_readName_265 (lv_at hl 4 rfl) ?_
                            refine lv_lload hx hb dX14_readName_267 (lv_at hl 3 rfl) ?_
                            refine lv_iload_n hx hb dX14_readName_269 rfl (lv_at hl 5 rfl) ?_
                            refine lv_iload_n hx hb dX14_readName_270 rfl (lv_at hl 7 rfl) ?_
                            have qc__983 : cF f a0_ = _ := hJ261_C_a0_
                            have hs_984 := sE_1 g 3 rfl (by have h9_0 := bg261_14_22_a0_; unfold bd at h9_0; have h9_1 := bo_; unfold bd at h9_1; have h9_2 := bop_; unfold bd at h9_2; have h9_3 := h_878; unfold bd at h9_3; have h9_4 := h_972; unfold bd at h9_4; have h9_5 := bso_; unfold bd at h9_5; have h9_6 := b_938; unfold bd at h9_6; have h9_7 := b_907; unfold bd at h9_7; have h9_8 := b_872; unfold bd at h9_8; have h9_9 := h_19; unfold bd at h9_9; have h9_10 := bx_2; unfold bd at h9_10; have h9_11 := h_9; unfold bd at h9_11; have h9_12 := bx_909; unfold bd at h9_12; have h9_13 := b_919; unfold bd at h9_13; have h9_14 := bx_950; unfold bd at h9_14; have h9_15 := b_952; unfold bd at h9_15; have h8_0 := kb_0; unfold bd at h8_0; have h8_1 := kb_1; unfold bd at h8_1; have h8_2 := kb_1200; unfold bd at h8_2; have h8_3 := kb_40; unfold bd at h8_3; have h8_4 := kb_m1; unfold bd at h8_4; omega)
                            have b_985 : bd 0 1201 x_8 := ⟨(by have h9_0 := bg261_14_22_a0_; unfold bd at h9_0; have h9_1 := bo_; unfold bd at h9_1; have h9_2 := bop_; unfold bd at h9_2; have h9_3 := h_878; unfold bd at h9_3; have h9_4 := h_972; unfold bd at h9_4; have h9_5 := bso_; unfold bd at h9_5; have h9_6 := b_938; unfold bd at h9_6; have h9_7 := b_907; unfold bd at h9_7; have h9_8 := b_872; unfold bd at h9_8; have h9_9 := h_19; unfold bd at h9_9; have h9_10 := bx_2; unfold bd at h9_10; have h9_11 := h_9; unfold bd at h9_11; have h9_12 := bx_909; unfold bd at h9_12; have h9_13 := b_919; unfold bd at h9_13; have h9_14 := bx_950; unfold bd at h9_14; have h9_15 := b_952; unfold bd at h9_15; have h8_0 := kb_0; unfold bd at h8_0; have h8_1 := kb_1; unfold bd at h8_1; have h8_2 := kb_1200; unfold bd at h8_2; have h8_3 := kb_40; unfold bd at h8_3; have h8_4 := kb_m1; unfold bd at h8_4; omega), (by have h9_0 := bg261_14_22_a0_; unfold bd at h9_0; have h9_1 := bo_; unfold bd at h9_1; have h9_2 := bop_; unfold bd at h9_2; have h9_3 := h_878; unfold bd at h9_3; have h9_4 := h_972; unfold bd at h9_4; have h9_5 := bso_; unfold bd at h9_5; have h9_6 := b_938; unfold bd at h9_6; have h9_7 := b_907; unfold bd at h9_7; have h9_8 := b_872; unfold bd at h9_8; have h9_9 := h_19; unfold bd at h9_9; have h9_10 := bx_2; unfold bd at h9_10; have h9_11 := h_9; unfold bd at h9_11; have h9_12 := bx_909; unfold bd at h9_12; have h9_13 := b_919; unfold bd at h9_13; have h9_14 := bx_950; unfold bd at h9_14; have h9_15 := b_952; unfold bd at h9_15; have h8_0 := kb_0; unfold bd at h8_0; have h8_1 := kb_1; unfold bd at h8_1; have h8_2 := kb_1200; unfold bd at h8_2; have h8_3 := kb_40; unfold bd at h8_3; have h8_4 := kb_m1; unfold bd at h8_4; omega)⟩
                            have go_ := g
                            refine g_callXi (As := [.int 3, .int r_968, .long x_3, .long x_4, .int x_2, .int x1_]) (rest := []) ⟨hx, hb, hml, hown, hts⟩ (ih.2.2.2.2.2.2 l dC dI L kd tys f H.size g.2.2.2.1 adK adV a0_ ma0_ ka0_ (3 : Int32) r_968 h_972 x_3 x_4 x_2 x1_ (bd_sub b_907 (by decide)) q0_ mq0_ kq0_ V_960 o_ bo_ op_ bop_ x_8 b_985 hJ261_V_q0_ hw_963 (by rw [hx_965.2.2.1 0 (by decide)]; exact ho) (by omega) hm_ hhm (by decide) (fun _ => hf_981) (fun h9 => absurd h9 (by decide)) (K_ - cl_0) (by omega) (by have h9_0 := bg261_14_22_a0_; unfold bd at h9_0; have h9_1 := bo_; unfold bd at h9_1; have h9_2 := bop_; unfold bd at h9_2; have h9_3 := h_878; unfold bd at h9_3; have h9_4 := h_972; unfold bd at h9_4; have h9_5 := bso_; unfold bd at h9_5; have h9_6 := b_938; unfold bd at h9_6; have h9_7 := b_907; unfold bd at h9_7; have h9_8 := b_872; unfold bd at h9_8; have h9_9 := h_19; unfold bd at h9_9; have h9_10 := bx_2; unfold bd at h9_10; have h9_11 := b_985; unfold bd at h9_11; have h9_12 := bx_909; unfold bd at h9_12; have h9_13 := b_919; unfold bd at h9_13; have h9_14 := bx_950; unfold bd at h9_14; have h9_15 := b_952; unfold bd at h9_15; have h8_0 := kb_0; unfold bd at h8_0; have h8_1 := kb_1; unfold bd at h8_1; have h8_2 := kb_1200; unfold bd at h8_2; have h8_3 := kb_40; unfold bd at h8_3; have h8_4 := kb_m1; unfold bd at h8_4; omega) (g.fcts [5, 6, 7, 4] rfl)) (cwV 6 hts (gV_ t_2508 t_2510 t_123 t_198 t_2511) rfl rfl rfl (by decide +kernel) ⟨(show N + 24 + 1 ≤ N + 1 + 24 by omega), (show 8 + (16 + 11) + (60 * N + 700) ≤ 60 * (N + 1) + 700 by omega)⟩) (pre3VA g hK hAm ma0_ ka0_ (by decide) (q := (RX14, TX14, 67)) rfl) rfl hl.1 rfl (lv_room (Nat.le_of_ble_eq_true rfl)) dX14_readName_271 (cl_k (K := K_) (k := K_ - cl_0) (show cl_0 + (K_ - cl_0) ≤ K_ by omega)) g hK (by decide) (by decide) (fx' := [(14, 22, a0_, .int g261_14_22_a0_), (14, 17, a0_, .int x_909), (12, 24, q0_, .ref a_908), (14, 2, a0_, .ref q0_), (14, 16, a0_, .int o_)]) rfl (fun xr_986 fr_986 H locs kr_986 cr_986 ecr_986 mxr_986 kxr_986 hp hMr_986 g => ?_) (fun r_986 fr_986 H locs kr_986 cr_986 ecr_986 hp hMr_986 g => ?_)
                            · have hG_987 := isN.frame hMr_986 go_.2.2.2.1 ma0_ ka0_ (by decide) (by decide) hJ261_N_a0_
                              subst hQ
                              exact leavesX hempty hlocks (fun t ht hW => g_thrX g hK mxr_986 kxr_986 (by omega) ht hW) g.2.2.1.2.2
                            · obtain ⟨hx_988, x_989, h_990, hF_991⟩ := hp
                              have hG_992 := isN.frame hMr_986 go_.2.2.2.1 ma0_ ka0_ (by decide) (by decide) hJ261_N_a0_
                              obtain ⟨V_993, E_994, hV_995, hF_996, hE_997, hX_998, hw_999, hv_1000, hP_1001, hn_1002, hk_1003, hc_1004⟩ := rd_use hx_988 hJ261_C_a0_
                              have hF_1005 := FR.call (mds := []) (mas := []) hJ261_F_q0_ go_ mq0_ kq0_ rfl hF_996
                              have mxE_994 : E_994 ≤ 1202 := by have h9 := cF_le g ma0_ ka0_; have h8 : cF _ _ = _ := hE_997; omega
                              have hx_1006 := exN.tr hx_965 hX_998
                              have hf_1007 := (exN.fnd_ hX_998).mpr hf_981
                              have hck_1008 : cr_986 ≤ K_ := by omega
                              have b_1009 : bd 0 2499 r_986 := ⟨hv_1000.1, (by have h9 := hv_1000.2.1; omega)⟩
                              have g := g.more hF_991
                              have h9c : cF fr_986 a0_ = _ := hE_997
                              subst hQ
                              exact iretX (v := r_986) hx hb hr (fun t ht hW => g_retX g hK ⟨_, rfl, ⟨⟨_, hV_995, hF_1005, hx_1006, hw_999, hv_1000, ⟨Or.inr (hP_1001.trans (by decide)), (fun h9 => absurd h9 (by have h8 := b_872; unfold bd at h8; omega))⟩, (by omega), (by omega), (by omega)⟩, x_989, h_990, (g.fcts [0, 1] rfl)⟩⟩ ht hW) g.2.2.1.2.2 dX14_readName_274 hlocks
                          refine lv_aload_n hx hb dX14_readName_223 rfl (lv_at hl 6 rfl) ?_
                          refine lv_aload_n hx hb dX14_readName_224 rfl (lv_at hl 6 rfl) ?_
                          refine g_geti (C := RX14) (T := TX14) (N := 67) hx hb hts (mc_ inX14) hown hK g ma0_ ka0_ (by decide) rfl 22 (by decide) rfl (hts _ (List.mem_cons_of_mem _ t_2168)) (fun _ h9 => h9) rfl dX14_readName_225 (fun x_1010 bx_1010 g => ?_)
                          refine lv_if_ne (tgt := 238) hx hb dX14_readName_228 (by decide) (fun c_1011 => ?_) (fun c_1011 => ?_)
                          · have fc_1011 := neq_f c_1011
                            have b_1012 : bd 1 1 x_1010 := neX fc_1011 bx_1010 kb_0 (by decide)
                            refine lv_aload_n hx hb dX14_readName_238 rfl (lv_at hl 6 rfl) ?_
                            refine g_getk (C := RX14) (T := TX14) (N := 67) hx hb hts (mc_ inX14) hown hK g rfl 2 (by decide) rfl (hts _ (List.mem_cons_of_mem _ t_2148)) (fun _ h9 => h9) 5 rfl dX14_readName_239 ?_
                            refine g_getr (K := 182) (C := RX12) (T := TX12) (N := 60) hx hb hts (mc_ inX12) hown hK g mq0_ kq0_ (by decide) rfl 26 (by decide) rfl (hts _ (List.mem_cons_of_mem _ t_1958)) (fun _ h9 => h9) rfl dX14_readName_242 (fun a_1013 ma_1013 ka_1013 g => ?_)
                            refine lv_iload hx hb dX14_readName_245 (lv_at hl 0 rfl) ?_
                            refine g_zald hx hb hK g ma_1013 ka_1013 (by decide) rfl (in_bd h_972 (by decide)) dX14_readName_247 (fun x_1014 bx_1014 => ?_)
                            refine lv_if_eq (tgt := 255) hx hb dX14_readName_248 (by decide) (fun c_1015 => ?_) (fun c_1015 => ?_)
                            · have fc_1015 := eq_f c_1015
                              have b_1016 : bd 0 0 x_1014 := eqX fc_1015 bx_1014 kb_0 (by decide)
                              refine lv_iconst (v := 0) hx hb dX14_readName_255 (by decide) ?_
                              refine lv_iconst (v := 5) hx hb dX14_readName_256 (by decide) ?_
                              refine lv_iload_n hx hb dX14_readName_257 rfl (lv_at hl 5 rfl) ?_
                              have hs_1017 := sE_1 g 4 rfl (by have h9_0 := bo_; unfold bd at h9_0; have h9_1 := bop_; unfold bd at h9_1; have h9_2 := h_878; unfold bd at h9_2; have h9_3 := h_972; unfold bd at h9_3; have h9_4 := bso_; unfold bd at h9_4; have h9_5 := b_938; unfold bd at h9_5; have h9_6 := b_907; unfold bd at h9_6; have h9_7 := b_872; unfold bd at h9_7; have h9_8 := b_1012; unfold bd at h9_8; have h9_9 := b_1016; unfold bd at h9_9; have h9_10 := h_19; unfold bd at h9_10; have h9_11 := bx_2; unfold bd at h9_11; have h9_12 := h_9; unfold bd at h9_12; have h9_13 := bx_909; unfold bd at h9_13; have h9_14 := b_919; unfold bd at h9_14; have h9_15 := bx_950; unfold bd at h9_15; have h9_16 := b_952; unfold bd at h9_16; have h8_0 := kb_0; unfold bd at h8_0; have h8_1 := kb_1; unfold bd at h8_1; have h8_2 := kb_1200; unfold bd at h8_2; have h8_3 := kb_40; unfold bd at h8_3; have h8_4 := kb_m1; unfold bd at h8_4; omega)
                              have go_ := g
                              refine g_callEv (As := [.int 0, .int 5, .int x_2]) (rest := []) ⟨hx, hb, hml, hown, hts⟩ (r_X14_need_2 l dC dI L kd tys fr_968 H.size g.2.2.2.1 a0_ ma0_ ka0_ 0 kb_0 5 x_2) (cwV 3 hts (gV_ t_2403 t_2405 t_100 t_198 t_2406) rfl rfl rfl (by decide +kernel) ⟨(show 1 + 1 ≤ N + 1 + 24 by omega), (show 8 + (4 + 11) + 22 ≤ 60 * (N + 1) + 700 by omega)⟩) (pre3V g hK ma0_ ka0_ (by decide) (q := (RX14, TX14, 67)) rfl) rfl hl.1 rfl (lv_room (Nat.le_of_ble_eq_true rfl)) dX14_readName_258 (cl_f hck_0) g hK (by decide) (by decide) (fx' := [(12, 26, q0_, .ref a_1013), (14, 22, a0_, .int x_1010), (14, 17, a0_, .int x_909), (12, 24, q0_, .ref a_908), (14, 6, a0_, .int x_18), (14, 10, a0_, .int x_8), (14, 2, a0_, .ref q0_), (14, 16, a0_, .int o_), (14, 25, a0_, .int op_)]) rfl (fun xr_1018 fr_1018 H locs mxr_1018 kxr_1018 hp hMr_1018 g => ?_) (fun fr_1018 H locs hp hMr_1018 g => ?_)
                              · have hG_1019 := isN.frame hMr_1018 go_.2.2.2.1 ma0_ ka0_ (by decide) (by decide) hG_977
                                have hG_1020 := cEq.frame hMr_1018 go_.2.2.2.1 ma0_ ka0_ (by decide) (by decide) hG_978
                                have hG_1021 := isV.frame hMr_1018 go_.2.2.2.1 mq0_ kq0_ (by decide) (by decide) hG_979
                                have hG_1022 := FR.frame hMr_1018 go_.2.2.2.1 mq0_ kq0_ (by decide) (by decide) hG_980
                                subst hQ
                                exact leavesX hempty hlocks (fun t ht hW => g_thrX g hK mxr_1018 kxr_1018 (by omega) ht hW) g.2.2.1.2.2
                              · exact hp.elim
                            · have fc_1015 := neq_f c_1015
                              have b_1023 : bd 1 1 x_1014 := neX fc_1015 bx_1014 kb_0 (by decide)
                              refine lv_iconst (v := 1) hx hb dX14_readName_251 (by decide) ?_
                              refine lv_goto (tgt := 256) hx hb dX14_readName_252 (by decide) ?_
                              refine lv_iconst (v := 5) hx hb dX14_readName_256 (by decide) ?_
                              refine lv_iload_n hx hb dX14_readName_257 rfl (lv_at hl 5 rfl) ?_
                              have hs_1024 := sE_1 g 4 rfl (by have h9_0 := bo_; unfold bd at h9_0; have h9_1 := bop_; unfold bd at h9_1; have h9_2 := h_878; unfold bd at h9_2; have h9_3 := h_972; unfold bd at h9_3; have h9_4 := bso_; unfold bd at h9_4; have h9_5 := b_938; unfold bd at h9_5; have h9_6 := b_907; unfold bd at h9_6; have h9_7 := b_872; unfold bd at h9_7; have h9_8 := b_1012; unfold bd at h9_8; have h9_9 := b_1023; unfold bd at h9_9; have h9_10 := h_19; unfold bd at h9_10; have h9_11 := bx_2; unfold bd at h9_11; have h9_12 := h_9; unfold bd at h9_12; have h9_13 := bx_909; unfold bd at h9_13; have h9_14 := b_919; unfold bd at h9_14; have h9_15 := bx_950; unfold bd at h9_15; have h9_16 := b_952; unfold bd at h9_16; have h8_0 := kb_0; unfold bd at h8_0; have h8_1 := kb_1; unfold bd at h8_1; have h8_2 := kb_1200; unfold bd at h8_2; have h8_3 := kb_40; unfold bd at h8_3; have h8_4 := kb_m1; unfold bd at h8_4; omega)
                              have go_ := g
                              refine g_callEv (As := [.int 1, .int 5, .int x_2]) (rest := []) ⟨hx, hb, hml, hown, hts⟩ (r_X14_need_3 l dC dI L kd tys fr_968 H.size g.2.2.2.1 a0_ ma0_ ka0_ 1 kb_1 5 x_2) (cwV 3 hts (gV_ t_2403 t_2405 t_100 t_198 t_2406) rfl rfl rfl (by decide +kernel) ⟨(show 0 + 1 ≤ N + 1 + 24 by omega), (show 8 + (4 + 11) + 0 ≤ 60 * (N + 1) + 700 by omega)⟩) (pre3V g hK ma0_ ka0_ (by decide) (q := (RX14, TX14, 67)) rfl) rfl hl.1 rfl (lv_room (Nat.le_of_ble_eq_true rfl)) dX14_readName_258 (cl_f hck_0) g hK (by decide) (by decide) (fx' := [(12, 26, q0_, .ref a_1013), (14, 22, a0_, .int x_1010), (14, 17, a0_, .int x_909), (12, 24, q0_, .ref a_908), (14, 6, a0_, .int x_18), (14, 10, a0_, .int x_8), (14, 2, a0_, .ref q0_), (14, 16, a0_, .int o_), (14, 25, a0_, .int op_)]) rfl (fun xr_1025 fr_1025 H locs mxr_1025 kxr_1025 hp hMr_1025 g => ?_) (fun fr_1025 H locs hp hMr_1025 g => ?_)
                              · have hG_1026 := isN.frame hMr_1025 go_.2.2.2.1 ma0_ ka0_ (by decide) (by decide) hG_977
                                have hG_1027 := cEq.frame hMr_1025 go_.2.2.2.1 ma0_ ka0_ (by decide) (by decide) hG_978
                                have hG_1028 := isV.frame hMr_1025 go_.2.2.2.1 mq0_ kq0_ (by decide) (by decide) hG_979
                                have hG_1029 := FR.frame hMr_1025 go_.2.2.2.1 mq0_ kq0_ (by decide) (by decide) hG_980
                                exact hp.elim
                              · have hG_1030 := isN.frame hMr_1025 go_.2.2.2.1 ma0_ ka0_ (by decide) (by decide) hG_977
                                have hG_1031 := cEq.frame hMr_1025 go_.2.2.2.1 ma0_ ka0_ (by decide) (by decide) hG_978
                                have hG_1032 := isV.frame hMr_1025 go_.2.2.2.1 mq0_ kq0_ (by decide) (by decide) hG_979
                                have hG_1033 := FR.frame hMr_1025 go_.2.2.2.1 mq0_ kq0_ (by decide) (by decide) hG_980
                                have hl9 := lv_sub hl [0, 1, 2, 3, 4, 5, 6, 7, 8] (by rfl : lv_pick [(10, .int r_968), (9, .int 1), (8, .int t_), (6, .long x_4), (4, .long x_3), (3, .int x_2), (0, .ref a0_), (1, .int x1_), (2, .int x2_)] [0, 1, 2, 3, 4, 5, 6, 7, 8] = [(10, .int r_968), (9, .int 1), (8, .int t_), (6, .long x_4), (4, .long x_3), (3, .int x_2), (0, .ref a0_), (1, .int x1_), (2, .int x2_)])
                                have g9 := g.sub (fx' := [(14, 22, a0_, .int x_1010), (14, 17, a0_, .int x_909), (12, 24, q0_, .ref a_908), (14, 6, a0_, .int x_18), (14, 10, a0_, .int x_8), (14, 2, a0_, .ref q0_), (14, 16, a0_, .int o_), (14, 25, a0_, .int op_)]) [1, 2, 3, 4, 5, 6, 7, 8] rfl
                                exact join_982 x_1010 _ _ _ _ (bd_sub b_1012 (by decide)) g9 hG_1030 hG_1031 hG_1032 hG_1033 hl9
                          · have fc_1011 := eq_f c_1011
                            have b_1034 : bd 0 0 x_1010 := eqX fc_1011 bx_1010 kb_0 (by decide)
                            refine lv_aload_n hx hb dX14_readName_231 rfl (lv_at hl 6 rfl) ?_
                            refine g_geti (C := RX14) (T := TX14) (N := 67) hx hb hts (mc_ inX14) hown hK g ma0_ ka0_ (by decide) rfl 24 (by decide) rfl (hts _ (List.mem_cons_of_mem _ t_2170)) (fun _ h9 => h9) rfl dX14_readName_232 (fun x_1035 bx_1035 g => ?_)
                            refine lv_if_eq (tgt := 251) hx hb dX14_readName_235 (by decide) (fun c_1036 => ?_) (fun c_1036 => ?_)
                            · have fc_1036 := eq_f c_1036
                              have b_1037 : bd 0 0 x_1035 := eqX fc_1036 bx_1035 kb_0 (by decide)
                              refine lv_iconst (v := 1) hx hb dX14_readName_251 (by decide) ?_
                              refine lv_goto (tgt := 256) hx hb dX14_readName_252 (by decide) ?_
                              refine lv_iconst (v := 5) hx hb dX14_readName_256 (by decide) ?_
                              refine lv_iload_n hx hb dX14_readName_257 rfl (lv_at hl 5 rfl) ?_
                              have hs_1038 := sE_1 g 4 rfl (by have h9_0 := bo_; unfold bd at h9_0; have h9_1 := bop_; unfold bd at h9_1; have h9_2 := h_878; unfold bd at h9_2; have h9_3 := h_972; unfold bd at h9_3; have h9_4 := bso_; unfold bd at h9_4; have h9_5 := b_938; unfold bd at h9_5; have h9_6 := b_907; unfold bd at h9_6; have h9_7 := b_872; unfold bd at h9_7; have h9_8 := b_1034; unfold bd at h9_8; have h9_9 := b_1037; unfold bd at h9_9; have h9_10 := h_19; unfold bd at h9_10; have h9_11 := bx_2; unfold bd at h9_11; have h9_12 := h_9; unfold bd at h9_12; have h9_13 := bx_909; unfold bd at h9_13; have h9_14 := b_919; unfold bd at h9_14; have h9_15 := bx_950; unfold bd at h9_15; have h9_16 := b_952; unfold bd at h9_16; have h8_0 := kb_0; unfold bd at h8_0; have h8_1 := kb_1; unfold bd at h8_1; have h8_2 := kb_1200; unfold bd at h8_2; have h8_3 := kb_40; unfold bd at h8_3; have h8_4 := kb_m1; unfold bd at h8_4; omega)
                              have go_ := g
                              refine g_callEv (As := [.int 1, .int 5, .int x_2]) (rest := []) ⟨hx, hb, hml, hown, hts⟩ (r_X14_need_3 l dC dI L kd tys fr_968 H.size g.2.2.2.1 a0_ ma0_ ka0_ 1 kb_1 5 x_2) (cwV 3 hts (gV_ t_2403 t_2405 t_100 t_198 t_2406) rfl rfl rfl (by decide +kernel) ⟨(show 0 + 1 ≤ N + 1 + 24 by omega), (show 8 + (4 + 11) + 0 ≤ 60 * (N + 1) + 700 by omega)⟩) (pre3V g hK ma0_ ka0_ (by decide) (q := (RX14, TX14, 67)) rfl) rfl hl.1 rfl (lv_room (Nat.le_of_ble_eq_true rfl)) dX14_readName_258 (cl_f hck_0) g hK (by decide) (by decide) (fx' := [(14, 24, a0_, .int x_1035), (14, 22, a0_, .int x_1010), (14, 17, a0_, .int x_909), (12, 24, q0_, .ref a_908), (14, 6, a0_, .int x_18), (14, 10, a0_, .int x_8), (14, 2, a0_, .ref q0_), (14, 16, a0_, .int o_), (14, 25, a0_, .int op_)]) rfl (fun xr_1039 fr_1039 H locs mxr_1039 kxr_1039 hp hMr_1039 g => ?_) (fun fr_1039 H locs hp hMr_1039 g => ?_)
                              · have hG_1040 := isN.frame hMr_1039 go_.2.2.2.1 ma0_ ka0_ (by decide) (by decide) hG_977
                                have hG_1041 := cEq.frame hMr_1039 go_.2.2.2.1 ma0_ ka0_ (by decide) (by decide) hG_978
                                have hG_1042 := isV.frame hMr_1039 go_.2.2.2.1 mq0_ kq0_ (by decide) (by decide) hG_979
                                have hG_1043 := FR.frame hMr_1039 go_.2.2.2.1 mq0_ kq0_ (by decide) (by decide) hG_980
                                exact hp.elim
                              · have hG_1044 := isN.frame hMr_1039 go_.2.2.2.1 ma0_ ka0_ (by decide) (by decide) hG_977
                                have hG_1045 := cEq.frame hMr_1039 go_.2.2.2.1 ma0_ ka0_ (by decide) (by decide) hG_978
                                have hG_1046 := isV.frame hMr_1039 go_.2.2.2.1 mq0_ kq0_ (by decide) (by decide) hG_979
                                have hG_1047 := FR.frame hMr_1039 go_.2.2.2.1 mq0_ kq0_ (by decide) (by decide) hG_980
                                have hl9 := lv_sub hl [0, 1, 2, 3, 4, 5, 6, 7, 8] (by rfl : lv_pick [(10, .int r_968), (9, .int 1), (8, .int t_), (6, .long x_4), (4, .long x_3), (3, .int x_2), (0, .ref a0_), (1, .int x1_), (2, .int x2_)] [0, 1, 2, 3, 4, 5, 6, 7, 8] = [(10, .int r_968), (9, .int 1), (8, .int t_), (6, .long x_4), (4, .long x_3), (3, .int x_2), (0, .ref a0_), (1, .int x1_), (2, .int x2_)])
                                have g9 := g.sub (fx' := [(14, 22, a0_, .int x_1010), (14, 17, a0_, .int x_909), (12, 24, q0_, .ref a_908), (14, 6, a0_, .int x_18), (14, 10, a0_, .int x_8), (14, 2, a0_, .ref q0_), (14, 16, a0_, .int o_), (14, 25, a0_, .int op_)]) [1, 2, 3, 4, 5, 6, 7, 8] rfl
                                exact join_982 x_1010 _ _ _ _ (bd_sub b_1034 (by decide)) g9 hG_1044 hG_1045 hG_1046 hG_1047 hl9
                            · have fc_1036 := neq_f c_1036
                              have b_1048 : bd 1 1 x_1035 := neX fc_1036 bx_1035 kb_0 (by decide)
                              refine lv_aload_n hx hb dX14_readName_238 rfl (lv_at hl 6 rfl) ?_
                              refine g_getk (C := RX14) (T := TX14) (N := 67) hx hb hts (mc_ inX14) hown hK g rfl 2 (by decide) rfl (hts _ (List.mem_cons_of_mem _ t_2148)) (fun _ h9 => h9) 6 rfl dX14_readName_239 ?_
                              refine g_getr (K := 182) (C := RX12) (T := TX12) (N := 60) hx hb hts (mc_ inX12) hown hK g mq0_ kq0_ (by decide) rfl 26 (by decide) rfl (hts _ (List.mem_cons_of_mem _ t_1958)) (fun _ h9 => h9) rfl dX14_readName_242 (fun a_1049 ma_1049 ka_1049 g => ?_)
                              refine lv_iload hx hb dX14_readName_245 (lv_at hl 0 rfl) ?_
                              refine g_zald hx hb hK g ma_1049 ka_1049 (by decide) rfl (in_bd h_972 (by decide)) dX14_readName_247 (fun x_1050 bx_1050 => ?_)
                              refine lv_if_eq (tgt := 255) hx hb dX14_readName_248 (by decide) (fun c_1051 => ?_) (fun c_1051 => ?_)
                              · have fc_1051 := eq_f c_1051
                                have b_1052 : bd 0 0 x_1050 := eqX fc_1051 bx_1050 kb_0 (by decide)
                                refine lv_iconst (v := 0) hx hb dX14_readName_255 (by decide) ?_
                                refine lv_iconst (v := 5) hx hb dX14_readName_256 (by decide) ?_
                                refine lv_iload_n hx hb dX14_readName_257 rfl (lv_at hl 5 rfl) ?_
                                have hs_1053 := sE_1 g 5 rfl (by have h9_0 := bo_; unfold bd at h9_0; have h9_1 := bop_; unfold bd at h9_1; have h9_2 := h_878; unfold bd at h9_2; have h9_3 := h_972; unfold bd at h9_3; have h9_4 := bso_; unfold bd at h9_4; have h9_5 := b_938; unfold bd at h9_5; have h9_6 := b_907; unfold bd at h9_6; have h9_7 := b_872; unfold bd at h9_7; have h9_8 := b_1034; unfold bd at h9_8; have h9_9 := b_1048; unfold bd at h9_9; have h9_10 := b_1052; unfold bd at h9_10; have h9_11 := h_19; unfold bd at h9_11; have h9_12 := bx_2; unfold bd at h9_12; have h9_13 := h_9; unfold bd at h9_13; have h9_14 := bx_909; unfold bd at h9_14; have h9_15 := b_919; unfold bd at h9_15; have h9_16 := bx_950; unfold bd at h9_16; have h9_17 := b_952; unfold bd at h9_17; have h8_0 := kb_0; unfold bd at h8_0; have h8_1 := kb_1; unfold bd at h8_1; have h8_2 := kb_1200; unfold bd at h8_2; have h8_3 := kb_40; unfold bd at h8_3; have h8_4 := kb_m1; unfold bd at h8_4; omega)
                                have go_ := g
                                refine g_callEv (As := [.int 0, .int 5, .int x_2]) (rest := []) ⟨hx, hb, hml, hown, hts⟩ (r_X14_need_2 l dC dI L kd tys fr_968 H.size g.2.2.2.1 a0_ ma0_ ka0_ 0 kb_0 5 x_2) (cwV 3 hts (gV_ t_2403 t_2405 t_100 t_198 t_2406) rfl rfl rfl (by decide +kernel) ⟨(show 1 + 1 ≤ N + 1 + 24 by omega), (show 8 + (4 + 11) + 22 ≤ 60 * (N + 1) + 700 by omega)⟩) (pre3V g hK ma0_ ka0_ (by decide) (q := (RX14, TX14, 67)) rfl) rfl hl.1 rfl (lv_room (Nat.le_of_ble_eq_true rfl)) dX14_readName_258 (cl_f hck_0) g hK (by decide) (by decide) (fx' := [(12, 26, q0_, .ref a_1049), (14, 24, a0_, .int x_1035), (14, 22, a0_, .int x_1010), (14, 17, a0_, .int x_909), (12, 24, q0_, .ref a_908), (14, 6, a0_, .int x_18), (14, 10, a0_, .int x_8), (14, 2, a0_, .ref q0_), (14, 16, a0_, .int o_), (14, 25, a0_, .int op_)]) rfl (fun xr_1054 fr_1054 H locs mxr_1054 kxr_1054 hp hMr_1054 g => ?_) (fun fr_1054 H locs hp hMr_1054 g => ?_)
                                · have hG_1055 := isN.frame hMr_1054 go_.2.2.2.1 ma0_ ka0_ (by decide) (by decide) hG_977
                                  have hG_1056 := cEq.frame hMr_1054 go_.2.2.2.1 ma0_ ka0_ (by decide) (by decide) hG_978
                                  have hG_1057 := isV.frame hMr_1054 go_.2.2.2.1 mq0_ kq0_ (by decide) (by decide) hG_979
                                  have hG_1058 := FR.frame hMr_1054 go_.2.2.2.1 mq0_ kq0_ (by decide) (by decide) hG_980
                                  subst hQ
                                  exact leavesX hempty hlocks (fun t ht hW => g_thrX g hK mxr_1054 kxr_1054 (by omega) ht hW) g.2.2.1.2.2
                                · exact hp.elim
                              · have fc_1051 := neq_f c_1051
                                have b_1059 : bd 1 1 x_1050 := neX fc_1051 bx_1050 kb_0 (by decide)
                                refine lv_iconst (v := 1) hx hb dX14_readName_251 (by decide) ?_
                                refine lv_goto (tgt := 256) hx hb dX14_readName_252 (by decide) ?_
                                refine lv_iconst (v := 5) hx hb dX14_readName_256 (by decide) ?_
                                refine lv_iload_n hx hb dX14_readName_257 rfl (lv_at hl 5 rfl) ?_
                                have hs_1060 := sE_1 g 5 rfl (by have h9_0 := bo_; unfold bd at h9_0; have h9_1 := bop_; unfold bd at h9_1; have h9_2 := h_878; unfold bd at h9_2; have h9_3 := h_972; unfold bd at h9_3; have h9_4 := bso_; unfold bd at h9_4; have h9_5 := b_938; unfold bd at h9_5; have h9_6 := b_907; unfold bd at h9_6; have h9_7 := b_872; unfold bd at h9_7; have h9_8 := b_1034; unfold bd at h9_8; have h9_9 := b_1048; unfold bd at h9_9; have h9_10 := b_1059; unfold bd at h9_10; have h9_11 := h_19; unfold bd at h9_11; have h9_12 := bx_2; unfold bd at h9_12; have h9_13 := h_9; unfold bd at h9_13; have h9_14 := bx_909; unfold bd at h9_14; have h9_15 := b_919; unfold bd at h9_15; have h9_16 := bx_950; unfold bd at h9_16; have h9_17 := b_952; unfold bd at h9_17; have h8_0 := kb_0; unfold bd at h8_0; have h8_1 := kb_1; unfold bd at h8_1; have h8_2 := kb_1200; unfold bd at h8_2; have h8_3 := kb_40; unfold bd at h8_3; have h8_4 := kb_m1; unfold bd at h8_4; omega)
                                have go_ := g
                                refine g_callEv (As := [.int 1, .int 5, .int x_2]) (rest := []) ⟨hx, hb, hml, hown, hts⟩ (r_X14_need_3 l dC dI L kd tys fr_968 H.size g.2.2.2.1 a0_ ma0_ ka0_ 1 kb_1 5 x_2) (cwV 3 hts (gV_ t_2403 t_2405 t_100 t_198 t_2406) rfl rfl rfl (by decide +kernel) ⟨(show 0 + 1 ≤ N + 1 + 24 by omega), (show 8 + (4 + 11) + 0 ≤ 60 * (N + 1) + 700 by omega)⟩) (pre3V g hK ma0_ ka0_ (by decide) (q := (RX14, TX14, 67)) rfl) rfl hl.1 rfl (lv_room (Nat.le_of_ble_eq_true rfl)) dX14_readName_258 (cl_f hck_0) g hK (by decide) (by decide) (fx' := [(12, 26, q0_, .ref a_1049), (14, 24, a0_, .int x_1035), (14, 22, a0_, .int x_1010), (14, 17, a0_, .int x_909), (12, 24, q0_, .ref a_908), (14, 6, a0_, .int x_18), (14, 10, a0_, .int x_8), (14, 2, a0_, .ref q0_), (14, 16, a0_, .int o_), (14, 25, a0_, .int op_)]) rfl (fun xr_1061 fr_1061 H locs mxr_1061 kxr_1061 hp hMr_1061 g => ?_) (fun fr_1061 H locs hp hMr_1061 g => ?_)
                                · have hG_1062 := isN.frame hMr_1061 go_.2.2.2.1 ma0_ ka0_ (by decide) (by decide) hG_977
                                  have hG_1063 := cEq.frame hMr_1061 go_.2.2.2.1 ma0_ ka0_ (by decide) (by decide) hG_978
                                  have hG_1064 := isV.frame hMr_1061 go_.2.2.2.1 mq0_ kq0_ (by decide) (by decide) hG_979
                                  have hG_1065 := FR.frame hMr_1061 go_.2.2.2.1 mq0_ kq0_ (by decide) (by decide) hG_980
                                  exact hp.elim
                                · have hG_1066 := isN.frame hMr_1061 go_.2.2.2.1 ma0_ ka0_ (by decide) (by decide) hG_977
                                  have hG_1067 := cEq.frame hMr_1061 go_.2.2.2.1 ma0_ ka0_ (by decide) (by decide) hG_978
                                  have hG_1068 := isV.frame hMr_1061 go_.2.2.2.1 mq0_ kq0_ (by decide) (by decide) hG_979
                                  have hG_1069 := FR.frame hMr_1061 go_.2.2.2.1 mq0_ kq0_ (by decide) (by decide) hG_980
                                  have hl9 := lv_sub hl [0, 1, 2, 3, 4, 5, 6, 7, 8] (by rfl : lv_pick [(10, .int r_968), (9, .int 1), (8, .int t_), (6, .long x_4), (4, .long x_3), (3, .int x_2), (0, .ref a0_), (1, .int x1_), (2, .int x2_)] [0, 1, 2, 3, 4, 5, 6, 7, 8] = [(10, .int r_968), (9, .int 1), (8, .int t_), (6, .long x_4), (4, .long x_3), (3, .int x_2), (0, .ref a0_), (1, .int x1_), (2, .int x2_)])
                                  have g9 := g.sub (fx' := [(14, 22, a0_, .int x_1010), (14, 17, a0_, .int x_909), (12, 24, q0_, .ref a_908), (14, 6, a0_, .int x_18), (14, 10, a0_, .int x_8), (14, 2, a0_, .ref q0_), (14, 16, a0_, .int o_), (14, 25, a0_, .int op_)]) [2, 3, 4, 5, 6, 7, 8, 9] rfl
                                  exact join_982 x_1010 _ _ _ _ (bd_sub b_1034 (by decide)) g9 hG_1066 hG_1067 hG_1068 hG_1069 hl9
                      · have fc_949 := neq_f c_949
                        have b_1070 : bd 1 (-1) x1_ := neX fc_949 b_907 kb_0 (by decide)
                        exact bd_no b_1070 (by decide)
            · have fc_906 := neq_f c_906
              have b_1071 : bd 1 1 x1_ := neX fc_906 bx1_ kb_0 (by decide)
              refine lv_aload_n hx hb dX14_readName_98 rfl (lv_at hl 5 rfl) ?_
              refine g_getk (C := RX14) (T := TX14) (N := 67) hx hb hts (mc_ inX14) hown hK g rfl 2 (by decide) rfl (hts _ (List.mem_cons_of_mem _ t_2148)) (fun _ h9 => h9) 2 rfl dX14_readName_99 ?_
              refine g_geti (C := RX12) (T := TX12) (N := 60) hx hb hts (mc_ inX12) hown hK g mq0_ kq0_ (by decide) rfl 58 (by decide) rfl (hts _ (List.mem_cons_of_mem _ t_2018)) (fun _ h9 => h9) rfl dX14_readName_102 (fun x_1072 bx_1072 g => ?_)
              refine lv_sipush (v := 2000) hx hb dX14_readName_105 (by decide) ?_
              have kb_2000 : bd 2000 2000 (2000 : Int32) := ⟨by decide, by decide⟩
              refine lv_icmp_ge (tgt := 115) hx hb dX14_readName_108 (by decide) (fun c_1073 => ?_) (fun c_1073 => ?_)
              · have fc_1073 := le_f c_1073
                have b_1074 : bd 2000 2147483647 x_1072 := leR fc_1073 kb_2000 (bdT x_1072) (by decide)
                refine lv_iconst (v := 0) hx hb dX14_readName_115 (by decide) ?_
                refine lv_goto (tgt := 141) hx hb dX14_readName_116 (by decide) ?_
                refine lv_iconst (v := 4) hx hb dX14_readName_141 (by decide) ?_
                refine lv_iload_n hx hb dX14_readName_142 rfl (lv_at hl 4 rfl) ?_
                have hs_1075 := sE_1 g 1 rfl (by have h9_0 := bo_; unfold bd at h9_0; have h9_1 := bop_; unfold bd at h9_1; have h9_2 := h_878; unfold bd at h9_2; have h9_3 := bso_; unfold bd at h9_3; have h9_4 := bt_; unfold bd at h9_4; have h9_5 := b_1071; unfold bd at h9_5; have h9_6 := b_872; unfold bd at h9_6; have h9_7 := b_1074; unfold bd at h9_7; have h9_8 := h_19; unfold bd at h9_8; have h9_9 := bx_2; unfold bd at h9_9; have h9_10 := h_9; unfold bd at h9_10; have h8_0 := kb_0; unfold bd at h8_0; have h8_1 := kb_1; unfold bd at h8_1; have h8_2 := kb_2000; unfold bd at h8_2; have h8_3 := kb_m1; unfold bd at h8_3; omega)
                have go_ := g
                refine g_callEv (As := [.int 0, .int 4, .int x_2]) (rest := []) ⟨hx, hb, hml, hown, hts⟩ (r_X14_need_2 l dC dI L kd tys fr_897 H.size g.2.2.2.1 a0_ ma0_ ka0_ 0 kb_0 4 x_2) (cwV 3 hts (gV_ t_2403 t_2405 t_100 t_198 t_2406) rfl rfl rfl (by decide +kernel) ⟨(show 1 + 1 ≤ N + 1 + 24 by omega), (show 8 + (4 + 11) + 22 ≤ 60 * (N + 1) + 700 by omega)⟩) (pre3V g hK ma0_ ka0_ (by decide) (q := (RX14, TX14, 67)) rfl) rfl hl.1 rfl (lv_room (Nat.le_of_ble_eq_true rfl)) dX14_readName_143 (cl_f hck_0) g hK (by decide) (by decide) (fx' := [(12, 58, q0_, .int x_1072), (14, 6, a0_, .int x_18), (14, 10, a0_, .int x_8), (14, 2, a0_, .ref q0_), (14, 16, a0_, .int o_), (14, 25, a0_, .int op_)]) rfl (fun xr_1076 fr_1076 H locs mxr_1076 kxr_1076 hp hMr_1076 g => ?_) (fun fr_1076 H locs hp hMr_1076 g => ?_)
                · have hG_1077 := isV.frame hMr_1076 go_.2.2.2.1 mq0_ kq0_ (by decide) (by decide) hG_902
                  have hG_1078 := FR.frame hMr_1076 go_.2.2.2.1 mq0_ kq0_ (by decide) (by decide) hG_903
                  have hG_1079 := isN.frame hMr_1076 go_.2.2.2.1 ma0_ ka0_ (by decide) (by decide) hG_904
                  have hG_1080 := cEq.frame hMr_1076 go_.2.2.2.1 ma0_ ka0_ (by decide) (by decide) hG_905
                  subst hQ
                  exact leavesX hempty hlocks (fun t ht hW => g_thrX g hK mxr_1076 kxr_1076 (by omega) ht hW) g.2.2.1.2.2
                · exact hp.elim
              · have fc_1073 := nle_f c_1073
                have b_1081 : bd (-2147483648) 1999 x_1072 := ltL fc_1073 (bdT x_1072) kb_2000 (by decide)
                refine lv_iconst (v := 1) hx hb dX14_readName_111 (by decide) ?_
                refine lv_goto (tgt := 141) hx hb dX14_readName_112 (by decide) ?_
                refine lv_iconst (v := 4) hx hb dX14_readName_141 (by decide) ?_
                refine lv_iload_n hx hb dX14_readName_142 rfl (lv_at hl 4 rfl) ?_
                have hs_1082 := sE_1 g 1 rfl (by have h9_0 := bo_; unfold bd at h9_0; have h9_1 := bop_; unfold bd at h9_1; have h9_2 := h_878; unfold bd at h9_2; have h9_3 := bso_; unfold bd at h9_3; have h9_4 := bt_; unfold bd at h9_4; have h9_5 := b_1071; unfold bd at h9_5; have h9_6 := b_872; unfold bd at h9_6; have h9_7 := b_1081; unfold bd at h9_7; have h9_8 := h_19; unfold bd at h9_8; have h9_9 := bx_2; unfold bd at h9_9; have h9_10 := h_9; unfold bd at h9_10; have h8_0 := kb_0; unfold bd at h8_0; have h8_1 := kb_1; unfold bd at h8_1; have h8_2 := kb_2000; unfold bd at h8_2; have h8_3 := kb_m1; unfold bd at h8_3; omega)
                have go_ := g
                refine g_callEv (As := [.int 1, .int 4, .int x_2]) (rest := []) ⟨hx, hb, hml, hown, hts⟩ (r_X14_need_3 l dC dI L kd tys fr_897 H.size g.2.2.2.1 a0_ ma0_ ka0_ 1 kb_1 4 x_2) (cwV 3 hts (gV_ t_2403 t_2405 t_100 t_198 t_2406) rfl rfl rfl (by decide +kernel) ⟨(show 0 + 1 ≤ N + 1 + 24 by omega), (show 8 + (4 + 11) + 0 ≤ 60 * (N + 1) + 700 by omega)⟩) (pre3V g hK ma0_ ka0_ (by decide) (q := (RX14, TX14, 67)) rfl) rfl hl.1 rfl (lv_room (Nat.le_of_ble_eq_true rfl)) dX14_readName_143 (cl_f hck_0) g hK (by decide) (by decide) (fx' := [(12, 58, q0_, .int x_1072), (14, 6, a0_, .int x_18), (14, 10, a0_, .int x_8), (14, 2, a0_, .ref q0_), (14, 16, a0_, .int o_), (14, 25, a0_, .int op_)]) rfl (fun xr_1083 fr_1083 H locs mxr_1083 kxr_1083 hp hMr_1083 g => ?_) (fun fr_1083 H locs hp hMr_1083 g => ?_)
                · have hG_1084 := isV.frame hMr_1083 go_.2.2.2.1 mq0_ kq0_ (by decide) (by decide) hG_902
                  have hG_1085 := FR.frame hMr_1083 go_.2.2.2.1 mq0_ kq0_ (by decide) (by decide) hG_903
                  have hG_1086 := isN.frame hMr_1083 go_.2.2.2.1 ma0_ ka0_ (by decide) (by decide) hG_904
                  have hG_1087 := cEq.frame hMr_1083 go_.2.2.2.1 ma0_ ka0_ (by decide) (by decide) hG_905
                  exact hp.elim
                · have hG_1088 := isV.frame hMr_1083 go_.2.2.2.1 mq0_ kq0_ (by decide) (by decide) hG_902
                  have hG_1089 := FR.frame hMr_1083 go_.2.2.2.1 mq0_ kq0_ (by decide) (by decide) hG_903
                  have hG_1090 := isN.frame hMr_1083 go_.2.2.2.1 ma0_ ka0_ (by decide) (by decide) hG_904
                  have hG_1091 := cEq.frame hMr_1083 go_.2.2.2.1 ma0_ ka0_ (by decide) (by decide) hG_905
                  refine lv_aload_n hx hb dX14_readName_146 rfl (lv_at hl 5 rfl) ?_
                  refine lv_iload hx hb dX14_readName_147 (lv_at hl 1 rfl) ?_
                  refine lv_sipush (v := 1200) hx hb dX14_readName_149 (by decide) ?_
                  have kb_1200 : bd 1200 1200 (1200 : Int32) := ⟨by decide, by decide⟩
                  refine lv_icmp_gt (tgt := 159) hx hb dX14_readName_152 (by decide) (fun c_1092 => ?_) (fun c_1092 => ?_)
                  · have fc_1092 := lt_f c_1092
                    have b_1093 : bd 1201 1201 t_ := ltR fc_1092 kb_1200 bt_ (by decide)
                    refine lv_iconst (v := 0) hx hb dX14_readName_159 (by decide) ?_
                    refine lv_iconst (v := 4) hx hb dX14_readName_160 (by decide) ?_
                    refine lv_iload_n hx hb dX14_readName_161 rfl (lv_at hl 4 rfl) ?_
                    have hs_1094 := sE_1 g 1 rfl (by have h9_0 := bo_; unfold bd at h9_0; have h9_1 := bop_; unfold bd at h9_1; have h9_2 := h_878; unfold bd at h9_2; have h9_3 := bso_; unfold bd at h9_3; have h9_4 := b_1093; unfold bd at h9_4; have h9_5 := b_1071; unfold bd at h9_5; have h9_6 := b_872; unfold bd at h9_6; have h9_7 := b_1081; unfold bd at h9_7; have h9_8 := h_19; unfold bd at h9_8; have h9_9 := bx_2; unfold bd at h9_9; have h9_10 := h_9; unfold bd at h9_10; have h8_0 := kb_0; unfold bd at h8_0; have h8_1 := kb_1; unfold bd at h8_1; have h8_2 := kb_1200; unfold bd at h8_2; have h8_3 := kb_2000; unfold bd at h8_3; have h8_4 := kb_m1; unfold bd at h8_4; omega)
                    have go_ := g
                    refine g_callEv (As := [.int 0, .int 4, .int x_2]) (rest := []) ⟨hx, hb, hml, hown, hts⟩ (r_X14_need_2 l dC dI L kd tys fr_1083 H.size g.2.2.2.1 a0_ ma0_ ka0_ 0 kb_0 4 x_2) (cwV 3 hts (gV_ t_2403 t_2405 t_100 t_198 t_2406) rfl rfl rfl (by decide +kernel) ⟨(show 1 + 1 ≤ N + 1 + 24 by omega), (show 8 + (4 + 11) + 22 ≤ 60 * (N + 1) + 700 by omega)⟩) (pre3V g hK ma0_ ka0_ (by decide) (q := (RX14, TX14, 67)) rfl) rfl hl.1 rfl (lv_room (Nat.le_of_ble_eq_true rfl)) dX14_readName_162 (cl_f hck_0) g hK (by decide) (by decide) (fx' := [(12, 58, q0_, .int x_1072), (14, 6, a0_, .int x_18), (14, 10, a0_, .int x_8), (14, 2, a0_, .ref q0_), (14, 16, a0_, .int o_), (14, 25, a0_, .int op_)]) rfl (fun xr_1095 fr_1095 H locs mxr_1095 kxr_1095 hp hMr_1095 g => ?_) (fun fr_1095 H locs hp hMr_1095 g => ?_)
                    · have hG_1096 := isV.frame hMr_1095 go_.2.2.2.1 mq0_ kq0_ (by decide) (by decide) hG_1088
                      have hG_1097 := FR.frame hMr_1095 go_.2.2.2.1 mq0_ kq0_ (by decide) (by decide) hG_1089
                      have hG_1098 := isN.frame hMr_1095 go_.2.2.2.1 ma0_ ka0_ (by decide) (by decide) hG_1090
                      have hG_1099 := cEq.frame hMr_1095 go_.2.2.2.1 ma0_ ka0_ (by decide) (by decide) hG_1091
                      subst hQ
                      exact leavesX hempty hlocks (fun t ht hW => g_thrX g hK mxr_1095 kxr_1095 (by omega) ht hW) g.2.2.1.2.2
                    · exact hp.elim
                  · have fc_1092 := nlt_f c_1092
                    have b_1100 : bd 0 1200 t_ := leL fc_1092 bt_ kb_1200 (by decide)
                    refine lv_iconst (v := 1) hx hb dX14_readName_155 (by decide) ?_
                    refine lv_goto (tgt := 160) hx hb dX14_readName_156 (by decide) ?_
                    refine lv_iconst (v := 4) hx hb dX14_readName_160 (by decide) ?_
                    refine lv_iload_n hx hb dX14_readName_161 rfl (lv_at hl 4 rfl) ?_
                    have hs_1101 := sE_1 g 1 rfl (by have h9_0 := bo_; unfold bd at h9_0; have h9_1 := bop_; unfold bd at h9_1; have h9_2 := h_878; unfold bd at h9_2; have h9_3 := bso_; unfold bd at h9_3; have h9_4 := b_1100; unfold bd at h9_4; have h9_5 := b_1071; unfold bd at h9_5; have h9_6 := b_872; unfold bd at h9_6; have h9_7 := b_1081; unfold bd at h9_7; have h9_8 := h_19; unfold bd at h9_8; have h9_9 := bx_2; unfold bd at h9_9; have h9_10 := h_9; unfold bd at h9_10; have h8_0 := kb_0; unfold bd at h8_0; have h8_1 := kb_1; unfold bd at h8_1; have h8_2 := kb_1200; unfold bd at h8_2; have h8_3 := kb_2000; unfold bd at h8_3; have h8_4 := kb_m1; unfold bd at h8_4; omega)
                    have go_ := g
                    refine g_callEv (As := [.int 1, .int 4, .int x_2]) (rest := []) ⟨hx, hb, hml, hown, hts⟩ (r_X14_need_3 l dC dI L kd tys fr_1083 H.size g.2.2.2.1 a0_ ma0_ ka0_ 1 kb_1 4 x_2) (cwV 3 hts (gV_ t_2403 t_2405 t_100 t_198 t_2406) rfl rfl rfl (by decide +kernel) ⟨(show 0 + 1 ≤ N + 1 + 24 by omega), (show 8 + (4 + 11) + 0 ≤ 60 * (N + 1) + 700 by omega)⟩) (pre3V g hK ma0_ ka0_ (by decide) (q := (RX14, TX14, 67)) rfl) rfl hl.1 rfl (lv_room (Nat.le_of_ble_eq_true rfl)) dX14_readName_162 (cl_f hck_0) g hK (by decide) (by decide) (fx' := [(12, 58, q0_, .int x_1072), (14, 6, a0_, .int x_18), (14, 10, a0_, .int x_8), (14, 2, a0_, .ref q0_), (14, 16, a0_, .int o_), (14, 25, a0_, .int op_)]) rfl (fun xr_1102 fr_1102 H locs mxr_1102 kxr_1102 hp hMr_1102 g => ?_) (fun fr_1102 H locs hp hMr_1102 g => ?_)
                    · have hG_1103 := isV.frame hMr_1102 go_.2.2.2.1 mq0_ kq0_ (by decide) (by decide) hG_1088
                      have hG_1104 := FR.frame hMr_1102 go_.2.2.2.1 mq0_ kq0_ (by decide) (by decide) hG_1089
                      have hG_1105 := isN.frame hMr_1102 go_.2.2.2.1 ma0_ ka0_ (by decide) (by decide) hG_1090
                      have hG_1106 := cEq.frame hMr_1102 go_.2.2.2.1 ma0_ ka0_ (by decide) (by decide) hG_1091
                      exact hp.elim
                    · have hG_1107 := isV.frame hMr_1102 go_.2.2.2.1 mq0_ kq0_ (by decide) (by decide) hG_1088
                      have hG_1108 := FR.frame hMr_1102 go_.2.2.2.1 mq0_ kq0_ (by decide) (by decide) hG_1089
                      have hG_1109 := isN.frame hMr_1102 go_.2.2.2.1 ma0_ ka0_ (by decide) (by decide) hG_1090
                      have hG_1110 := cEq.frame hMr_1102 go_.2.2.2.1 ma0_ ka0_ (by decide) (by decide) hG_1091
                      refine lv_iload_n hx hb dX14_readName_165 rfl (lv_at hl 6 rfl) ?_
                      refine lv_if_eq (tgt := 185) hx hb dX14_readName_166 (by decide) (fun c_1111 => ?_) (fun c_1111 => ?_)
                      · have fc_1111 := eq_f c_1111
                        exact absurd fc_1111 fc_906
                      · have fc_1111 := neq_f c_1111
                        refine lv_aload_n hx hb dX14_readName_169 rfl (lv_at hl 5 rfl) ?_
                        refine g_getk (C := RX14) (T := TX14) (N := 67) hx hb hts (mc_ inX14) hown hK g rfl 2 (by decide) rfl (hts _ (List.mem_cons_of_mem _ t_2148)) (fun _ h9 => h9) 3 rfl dX14_readName_170 ?_
                        refine lv_dup hx hb dX14_readName_173 rfl ?_
                        refine g_getk (C := RX12) (T := TX12) (N := 60) hx hb hts (mc_ inX12) hown hK g rfl 58 (by decide) rfl (hts _ (List.mem_cons_of_mem _ t_2018)) (fun _ h9 => h9) 0 rfl dX14_readName_174 ?_
                        refine lv_iconst (v := 1) hx hb dX14_readName_177 (by decide) ?_
                        refine lv_iadd hx hb dX14_readName_178 ?_
                        refine lv_topi (fun y_1112 ey_1112 => ?_)
                        have ty_1112 := add_bd ey_1112 b_1081 kb_1 (by decide)
                        have b_1113 : bd (-2147483647) 2000 y_1112 := add_rg ty_1112 b_1081 kb_1 (by decide)
                        have gp_1114 := g
                        have go_ := g
                        refine g_putX (C := RX12) (T := TX12) (N := 60) hx hb hts (mc_ inX12) tyX12 tyX12_ok nmX12 hown hK g mq0_ kq0_ (by decide) rfl 58 (by decide) (hts _ (List.mem_cons_of_mem _ t_2018)) (fun _ h9 => h9) rfl rfl (okV_i (bd_sub b_1113 (by decide))) rfl rfl (by decide) (Or.inr (Or.inl (by decide))) (fx' := [(14, 6, a0_, .int x_18), (14, 10, a0_, .int x_8), (14, 2, a0_, .ref q0_), (14, 16, a0_, .int o_), (14, 25, a0_, .int op_)]) rfl dX14_readName_179 (fun f H locs hM_1115 u_1118 g => ?_)
                        have hG_1116 := isN.frame hM_1115 go_.2.2.2.1 ma0_ ka0_ (by decide) (by decide) hG_1109
                        have hG_1117 := cEq.frame hM_1115 go_.2.2.2.1 ma0_ ka0_ (by decide) (by decide) hG_1110
                        have hV_1119 := isV.u58 hG_1107 gp_1114.2.2.2.1 mq0_ kq0_ u_1118
                        have hF_1120 := FR.fld hG_1108 u_1118
                        refine lv_goto (tgt := 201) hx hb dX14_readName_182 (by decide) ?_
                        refine lv_iload hx hb dX14_readName_201 (lv_at hl 0 rfl) ?_
                        refine lv_if_eq (tgt := 275) hx hb dX14_readName_203 (by decide) (fun c_ => absurd c_ (by decide)) (fun c_ => ?_)
                        refine lv_aload_n hx hb dX14_readName_206 rfl (lv_at hl 5 rfl) ?_
                        refine g_getk (C := RX14) (T := TX14) (N := 67) hx hb hts (mc_ inX14) hown hK g rfl 2 (by decide) rfl (hts _ (List.mem_cons_of_mem _ t_2148)) (fun _ h9 => h9) 3 rfl dX14_readName_207 ?_
                        refine lv_aload_n hx hb dX14_readName_210 rfl (lv_at hl 5 rfl) ?_
                        refine g_getk (C := RX14) (T := TX14) (N := 67) hx hb hts (mc_ inX14) hown hK g rfl 16 (by decide) rfl (hts _ (List.mem_cons_of_mem _ t_2162)) (fun _ h9 => h9) 4 rfl dX14_readName_211 ?_
                        refine lv_lload hx hb dX14_readName_214 (lv_at hl 3 rfl) ?_
                        refine lv_lload hx hb dX14_readName_216 (lv_at hl 2 rfl) ?_
                        have hs_1121 := sE_1 g 1 rfl (by have h9_0 := bo_; unfold bd at h9_0; have h9_1 := bop_; unfold bd at h9_1; have h9_2 := h_878; unfold bd at h9_2; have h9_3 := bso_; unfold bd at h9_3; have h9_4 := b_1100; unfold bd at h9_4; have h9_5 := b_1071; unfold bd at h9_5; have h9_6 := b_872; unfold bd at h9_6; have h9_7 := b_1081; unfold bd at h9_7; have h9_8 := h_19; unfold bd at h9_8; have h9_9 := bx_2; unfold bd at h9_9; have h9_10 := h_9; unfold bd at h9_10; have h9_11 := b_1113; unfold bd at h9_11; have h8_0 := kb_0; unfold bd at h8_0; have h8_1 := kb_1; unfold bd at h8_1; have h8_2 := kb_1200; unfold bd at h8_2; have h8_3 := kb_2000; unfold bd at h8_3; have h8_4 := kb_m1; unfold bd at h8_4; omega)
                        have go_ := g
                        refine g_calli (va_runV (As := [.int o_, .long x_3, .long x_4]) (rest := []) ⟨hx, hb, hml, hown, hts⟩ (r_X12_findN l dC dI L kd tys f H.size g.2.2.2.1 q0_ mq0_ kq0_ o_ (bd_sub bo_ (by decide)) x_3 x_4 V_ hV_1119) (cwV 3 hts (gV_ t_2500 t_2501 t_2502 t_203 t_2503) rfl rfl rfl (by decide +kernel) ⟨(show 0 + 1 ≤ N + 1 + 24 by omega), (show 8 + (7 + 11) + 0 ≤ 60 * (N + 1) + 700 by omega)⟩) (pre3V g hK mq0_ kq0_ (by decide) (q := (RX12, TX12, 60)) rfl) rfl rfl hl.1 rfl (lv_room (Nat.le_of_ble_eq_true rfl)) dX14_readName_218 (cl_f hck_0)) g hK (by decide) (by decide) (fx' := [(12, 58, q0_, .int y_1112), (14, 6, a0_, .int x_18), (14, 10, a0_, .int x_8), (14, 2, a0_, .ref q0_), (14, 16, a0_, .int o_), (14, 25, a0_, .int op_)]) rfl (fun r_1122 fr_1122 H locs hp hMr_1122 g => ?_)
                        rcases hp with ⟨hx_1123, h_1124, -⟩ | ⟨hx_1125, h_1126, -⟩
                        · have hG_1127 := isN.frame hMr_1122 go_.2.2.2.1 ma0_ ka0_ (by decide) (by decide) hG_1116
                          have hG_1128 := cEq.frame hMr_1122 go_.2.2.2.1 ma0_ ka0_ (by decide) (by decide) hG_1117
                          have hG_1129 := isV.frame hMr_1122 go_.2.2.2.1 mq0_ kq0_ (by decide) (by decide) hV_1119
                          have hG_1130 := FR.frame hMr_1122 go_.2.2.2.1 mq0_ kq0_ (by decide) (by decide) hF_1120
                          obtain rfl : r_1122 = (-1) := h_1124
                          exact absurd hf_893 hx_1123
                        · have hG_1131 := isN.frame hMr_1122 go_.2.2.2.1 ma0_ ka0_ (by decide) (by decide) hG_1116
                          have hG_1132 := cEq.frame hMr_1122 go_.2.2.2.1 ma0_ ka0_ (by decide) (by decide) hG_1117
                          have hG_1133 := isV.frame hMr_1122 go_.2.2.2.1 mq0_ kq0_ (by decide) (by decide) hV_1119
                          have hG_1134 := FR.frame hMr_1122 go_.2.2.2.1 mq0_ kq0_ (by decide) (by decide) hF_1120
                          have hf_1135 := hx_1125.fnd_
                          refine lv_istore (lv' := [(10, .int r_1122), (9, .int 1), (8, .int t_), (6, .long x_4), (4, .long x_3), (3, .int x_2), (0, .ref a0_), (1, .int x1_), (2, .int x2_)]) hx hb dX14_readName_221 hl (by decide) rfl (fun ls hl => ?_)
                          have join_1136 : ∀ (g261_14_22_a0_ : Int32) (f : Nat → va_E) (H : Heap) (locs : List Loc) (ls : Array Slot), bd 0 1 g261_14_22_a0_ → G3 (dC, dI) L kd tys s f0 [(12, 57), (12, 58), (14, 6), (14, 7), (14, 8), (14, 9), (14, 10), (14, 11), (14, 12), (14, 13), (14, 14), (14, 15), (14, 25)] [180, 201, 202, 203, 204, 205, 206, 207, 208, 209, 210] f H locs [(14, 22, a0_, .int g261_14_22_a0_), (12, 58, q0_, .int y_1112), (14, 6, a0_, .int x_18), (14, 10, a0_, .int x_8), (14, 2, a0_, .ref q0_), (14, 16, a0_, .int o_), (14, 25, a0_, .int op_)] → isN f a0_ N_ → cEq f a0_ E_14 → isV f q0_ V_ → FR L kd f0 f q0_ → lv_has ls 11 [(10, .int r_1122), (9, .int 1), (8, .int t_), (6, .long x_4), (4, .long x_3), (3, .int x_2), (0, .ref a0_), (1, .int x1_), (2, .int x2_)] → W p l e ({ frames := (N + 1) + 24, cells := K_, slots := 3 * K_, locals := 60 * (N + 1) + 700 } : Room) s m [.ref a0_, .int x1_, .int x2_].toArray below meth c H locs cl_0 (3 * cl_0) Q (F0 m 261 ls []) := by
                            intro g261_14_22_a0_ f H locs ls bg261_14_22_a0_ g hJ261_N_a0_ hJ261_C_a0_ hJ261_V_q0_ hJ261_F_q0_ hl
                            refine lv_aload_n hx hb dX14_readName_261 rfl (lv_at hl 6 rfl) ?_
                            refine lv_iconst (v := 3) hx hb dX14_readName_262 (by decide) ?_
                            refine lv_iload hx hb dX14_readName_263 (lv_at hl 0 rfl) ?_
                            refine lv_lload hx hb dX14_readName_265 (lv_at hl 4 rfl) ?_
                            refine lv_lload hx hb dX14_readName_267 (lv_at hl 3 rfl) ?_
                            refine lv_iload_n hx hb dX14_readName_269 rfl (lv_at hl 5 rfl) ?_
                            refine lv_iload_n hx hb dX14_readName_270 rfl (lv_at hl 7 rfl) ?_
                            have qc__1137 : cF f a0_ = _ := hJ261_C_a0_
                            have hs_1138 := sE_1 g 2 rfl (by have h9_0 := bg261_14_22_a0_; unfold bd at h9_0; have h9_1 := bo_; unfold bd at h9_1; have h9_2 := bop_; unfold bd at h9_2; have h9_3 := h_1126; unfold bd at h9_3; have h9_4 := h_878; unfold bd at h9_4; have h9_5 := bso_; unfold bd at h9_5; have h9_6 := b_1100; unfold bd at h9_6; have h9_7 := b_1071; unfold bd at h9_7; have h9_8 := b_872; unfold bd at h9_8; have h9_9 := b_1081; unfold bd at h9_9; have h9_10 := h_19; unfold bd at h9_10; have h9_11 := bx_2; unfold bd at h9_11; have h9_12 := h_9; unfold bd at h9_12; have h9_13 := b_1113; unfold bd at h9_13; have h8_0 := kb_0; unfold bd at h8_0; have h8_1 := kb_1; unfold bd at h8_1; have h8_2 := kb_1200; unfold bd at h8_2; have h8_3 := kb_2000; unfold bd at h8_3; have h8_4 := kb_m1; unfold bd at h8_4; omega)
                            have b_1139 : bd 0 1201 x_8 := ⟨(by have h9_0 := bg261_14_22_a0_; unfold bd at h9_0; have h9_1 := bo_; unfold bd at h9_1; have h9_2 := bop_; unfold bd at h9_2; have h9_3 := h_1126; unfold bd at h9_3; have h9_4 := h_878; unfold bd at h9_4; have h9_5 := bso_; unfold bd at h9_5; have h9_6 := b_1100; unfold bd at h9_6; have h9_7 := b_1071; unfold bd at h9_7; have h9_8 := b_872; unfold bd at h9_8; have h9_9 := b_1081; unfold bd at h9_9; have h9_10 := h_19; unfold bd at h9_10; have h9_11 := bx_2; unfold bd at h9_11; have h9_12 := h_9; unfold bd at h9_12; have h9_13 := b_1113; unfold bd at h9_13; have h8_0 := kb_0; unfold bd at h8_0; have h8_1 := kb_1; unfold bd at h8_1; have h8_2 := kb_1200; unfold bd at h8_2; have h8_3 := kb_2000; unfold bd at h8_3; have h8_4 := kb_m1; unfold bd at h8_4; omega), (by have h9_0 := bg261_14_22_a0_; unfold bd at h9_0; have h9_1 := bo_; unfold bd at h9_1; have h9_2 := bop_; unfold bd at h9_2; have h9_3 := h_1126; unfold bd at h9_3; have h9_4 := h_878; unfold bd at h9_4; have h9_5 := bso_; unfold bd at h9_5; have h9_6 := b_1100; unfold bd at h9_6; have h9_7 := b_1071; unfold bd at h9_7; have h9_8 := b_872; unfold bd at h9_8; have h9_9 := b_1081; unfold bd at h9_9; have h9_10 := h_19; unfold bd at h9_10; have h9_11 := bx_2; unfold bd at h9_11; have h9_12 := h_9; unfold bd at h9_12; have h9_13 := b_1113; unfold bd at h9_13; have h8_0 := kb_0; unfold bd at h8_0; have h8_1 := kb_1; unfold bd at h8_1; have h8_2 := kb_1200; unfold bd at h8_2; have h8_3 := kb_2000; unfold bd at h8_3; have h8_4 := kb_m1; unfold bd at h8_4; omega)⟩
                            have go_ := g
                            refine g_callXi (As := [.int 3, .int r_1122, .long x_3, .long x_4, .int x_2, .int x1_]) (rest := []) ⟨hx, hb, hml, hown, hts⟩ (ih.2.2.2.2.2.2 l dC dI L kd tys f H.size g.2.2.2.1 adK adV a0_ ma0_ ka0_ (3 : Int32) r_1122 h_1126 x_3 x_4 x_2 x1_ (bd_sub b_1071 (by decide)) q0_ mq0_ kq0_ V_ o_ bo_ op_ bop_ x_8 b_1139 hJ261_V_q0_ hwf ho (by omega) hm_ hhm (by decide) (fun _ => hf_1135) (fun h9 => absurd h9 (by decide)) (K_ - cl_0) (by omega) (by have h9_0 := bg261_14_22_a0_; unfold bd at h9_0; have h9_1 := bo_; unfold bd at h9_1; have h9_2 := bop_; unfold bd at h9_2; have h9_3 := h_1126; unfold bd at h9_3; have h9_4 := h_878; unfold bd at h9_4; have h9_5 := bso_; unfold bd at h9_5; have h9_6 := b_1100; unfold bd at h9_6; have h9_7 := b_1071; unfold bd at h9_7; have h9_8 := b_872; unfold bd at h9_8; have h9_9 := b_1081; unfold bd at h9_9; have h9_10 := h_19; unfold bd at h9_10; have h9_11 := bx_2; unfold bd at h9_11; have h9_12 := b_1139; unfold bd at h9_12; have h9_13 := b_1113; unfold bd at h9_13; have h8_0 := kb_0; unfold bd at h8_0; have h8_1 := kb_1; unfold bd at h8_1; have h8_2 := kb_1200; unfold bd at h8_2; have h8_3 := kb_2000; unfold bd at h8_3; have h8_4 := kb_m1; unfold bd at h8_4; omega) (g.fcts [4, 5, 6, 3] rfl)) (cwV 6 hts (gV_ t_2508 t_2510 t_123 t_198 t_2511) rfl rfl rfl (by decide +kernel) ⟨(show N + 24 + 1 ≤ N + 1 + 24 by omega), (show 8 + (16 + 11) + (60 * N + 700) ≤ 60 * (N + 1) + 700 by omega)⟩) (pre3VA g hK hAm ma0_ ka0_ (by decide) (q := (RX14, TX14, 67)) rfl) rfl hl.1 rfl (lv_room (Nat.le_of_ble_eq_true rfl)) dX14_readName_271 (cl_k (K := K_) (k := K_ - cl_0) (show cl_0 + (K_ - cl_0) ≤ K_ by omega)) g hK (by decide) (by decide) (fx' := [(14, 22, a0_, .int g261_14_22_a0_), (14, 2, a0_, .ref q0_), (14, 16, a0_, .int o_)]) rfl (fun xr_1140 fr_1140 H locs kr_1140 cr_1140 ecr_1140 mxr_1140 kxr_1140 hp hMr_1140 g => ?_) (fun r_1140 fr_1140 H locs kr_1140 cr_1140 ecr_1140 hp hMr_1140 g => ?_)
                            · have hG_1141 := isN.frame hMr_1140 go_.2.2.2.1 ma0_ ka0_ (by decide) (by decide) hJ261_N_a0_
                              subst hQ
                              exact leavesX hempty hlocks (fun t ht hW => g_thrX g hK mxr_1140 kxr_1140 (by omega) ht hW) g.2.2.1.2.2
                            · obtain ⟨hx_1142, x_1143, h_1144, hF_1145⟩ := hp
                              have hG_1146 := isN.frame hMr_1140 go_.2.2.2.1 ma0_ ka0_ (by decide) (by decide) hJ261_N_a0_
                              obtain ⟨V_1147, E_1148, hV_1149, hF_1150, hE_1151, hX_1152, hw_1153, hv_1154, hP_1155, hn_1156, hk_1157, hc_1158⟩ := rd_use hx_1142 hJ261_C_a0_
                              have hF_1159 := FR.call (mds := []) (mas := []) hJ261_F_q0_ go_ mq0_ kq0_ rfl hF_1150
                              have mxE_1148 : E_1148 ≤ 1202 := by have h9 := cF_le g ma0_ ka0_; have h8 : cF _ _ = _ := hE_1151; omega
                              have hx_1160 := exN.tr exN.rf hX_1152
                              have hf_1161 := (exN.fnd_ hX_1152).mpr hf_1135
                              have hck_1162 : cr_1140 ≤ K_ := by omega
                              have b_1163 : bd 0 2499 r_1140 := ⟨hv_1154.1, (by have h9 := hv_1154.2.1; omega)⟩
                              have g := g.more hF_1145
                              have h9c : cF fr_1140 a0_ = _ := hE_1151
                              subst hQ
                              exact iretX (v := r_1140) hx hb hr (fun t ht hW => g_retX g hK ⟨_, rfl, ⟨⟨_, hV_1149, hF_1159, hx_1160, hw_1153, hv_1154, ⟨Or.inr (hP_1155.trans (by decide)), (fun h9 => absurd h9 (by have h8 := b_872; unfold bd at h8; omega))⟩, (by omega), (by omega), (by omega)⟩, x_1143, h_1144, (g.fcts [0, 1] rfl)⟩⟩ ht hW) g.2.2.1.2.2 dX14_readName_274 hlocks
                          refine lv_aload_n hx hb dX14_readName_223 rfl (lv_at hl 6 rfl) ?_
                          refine lv_aload_n hx hb dX14_readName_224 rfl (lv_at hl 6 rfl) ?_
                          refine g_geti (C := RX14) (T := TX14) (N := 67) hx hb hts (mc_ inX14) hown hK g ma0_ ka0_ (by decide) rfl 22 (by decide) rfl (hts _ (List.mem_cons_of_mem _ t_2168)) (fun _ h9 => h9) rfl dX14_readName_225 (fun x_1164 bx_1164 g => ?_)
                          refine lv_if_ne (tgt := 238) hx hb dX14_readName_228 (by decide) (fun c_1165 => ?_) (fun c_1165 => ?_)
                          · have fc_1165 := neq_f c_1165
                            have b_1166 : bd 1 1 x_1164 := neX fc_1165 bx_1164 kb_0 (by decide)
                            refine lv_aload_n hx hb dX14_readName_238 rfl (lv_at hl 6 rfl) ?_
                            refine g_getk (C := RX14) (T := TX14) (N := 67) hx hb hts (mc_ inX14) hown hK g rfl 2 (by decide) rfl (hts _ (List.mem_cons_of_mem _ t_2148)) (fun _ h9 => h9) 4 rfl dX14_readName_239 ?_
                            refine g_getr (K := 182) (C := RX12) (T := TX12) (N := 60) hx hb hts (mc_ inX12) hown hK g mq0_ kq0_ (by decide) rfl 26 (by decide) rfl (hts _ (List.mem_cons_of_mem _ t_1958)) (fun _ h9 => h9) rfl dX14_readName_242 (fun a_1167 ma_1167 ka_1167 g => ?_)
                            refine lv_iload hx hb dX14_readName_245 (lv_at hl 0 rfl) ?_
                            refine g_zald hx hb hK g ma_1167 ka_1167 (by decide) rfl (in_bd h_1126 (by decide)) dX14_readName_247 (fun x_1168 bx_1168 => ?_)
                            refine lv_if_eq (tgt := 255) hx hb dX14_readName_248 (by decide) (fun c_1169 => ?_) (fun c_1169 => ?_)
                            · have fc_1169 := eq_f c_1169
                              have b_1170 : bd 0 0 x_1168 := eqX fc_1169 bx_1168 kb_0 (by decide)
                              refine lv_iconst (v := 0) hx hb dX14_readName_255 (by decide) ?_
                              refine lv_iconst (v := 5) hx hb dX14_readName_256 (by decide) ?_
                              refine lv_iload_n hx hb dX14_readName_257 rfl (lv_at hl 5 rfl) ?_
                              have hs_1171 := sE_1 g 3 rfl (by have h9_0 := bo_; unfold bd at h9_0; have h9_1 := bop_; unfold bd at h9_1; have h9_2 := h_1126; unfold bd at h9_2; have h9_3 := h_878; unfold bd at h9_3; have h9_4 := bso_; unfold bd at h9_4; have h9_5 := b_1100; unfold bd at h9_5; have h9_6 := b_1071; unfold bd at h9_6; have h9_7 := b_872; unfold bd at h9_7; have h9_8 := b_1081; unfold bd at h9_8; have h9_9 := b_1166; unfold bd at h9_9; have h9_10 := b_1170; unfold bd at h9_10; have h9_11 := h_19; unfold bd at h9_11; have h9_12 := bx_2; unfold bd at h9_12; have h9_13 := h_9; unfold bd at h9_13; have h9_14 := b_1113; unfold bd at h9_14; have h8_0 := kb_0; unfold bd at h8_0; have h8_1 := kb_1; unfold bd at h8_1; have h8_2 := kb_1200; unfold bd at h8_2; have h8_3 := kb_2000; unfold bd at h8_3; have h8_4 := kb_m1; unfold bd at h8_4; omega)
                              have go_ := g
                              refine g_callEv (As := [.int 0, .int 5, .int x_2]) (rest := []) ⟨hx, hb, hml, hown, hts⟩ (r_X14_need_2 l dC dI L kd tys fr_1122 H.size g.2.2.2.1 a0_ ma0_ ka0_ 0 kb_0 5 x_2) (cwV 3 hts (gV_ t_2403 t_2405 t_100 t_198 t_2406) rfl rfl rfl (by decide +kernel) ⟨(show 1 + 1 ≤ N + 1 + 24 by omega), (show 8 + (4 + 11) + 22 ≤ 60 * (N + 1) + 700 by omega)⟩) (pre3V g hK ma0_ ka0_ (by decide) (q := (RX14, TX14, 67)) rfl) rfl hl.1 rfl (lv_room (Nat.le_of_ble_eq_true rfl)) dX14_readName_258 (cl_f hck_0) g hK (by decide) (by decide) (fx' := [(12, 26, q0_, .ref a_1167), (14, 22, a0_, .int x_1164), (12, 58, q0_, .int y_1112), (14, 6, a0_, .int x_18), (14, 10, a0_, .int x_8), (14, 2, a0_, .ref q0_), (14, 16, a0_, .int o_), (14, 25, a0_, .int op_)]) rfl (fun xr_1172 fr_1172 H locs mxr_1172 kxr_1172 hp hMr_1172 g => ?_) (fun fr_1172 H locs hp hMr_1172 g => ?_)
                              · have hG_1173 := isN.frame hMr_1172 go_.2.2.2.1 ma0_ ka0_ (by decide) (by decide) hG_1131
                                have hG_1174 := cEq.frame hMr_1172 go_.2.2.2.1 ma0_ ka0_ (by decide) (by decide) hG_1132
                                have hG_1175 := isV.frame hMr_1172 go_.2.2.2.1 mq0_ kq0_ (by decide) (by decide) hG_1133
                                have hG_1176 := FR.frame hMr_1172 go_.2.2.2.1 mq0_ kq0_ (by decide) (by decide) hG_1134
                                subst hQ
                                exact leavesX hempty hlocks (fun t ht hW => g_thrX g hK mxr_1172 kxr_1172 (by omega) ht hW) g.2.2.1.2.2
                              · exact hp.elim
                            · have fc_1169 := neq_f c_1169
                              have b_1177 : bd 1 1 x_1168 := neX fc_1169 bx_1168 kb_0 (by decide)
                              refine lv_iconst (v := 1) hx hb dX14_readName_251 (by decide) ?_
                              refine lv_goto (tgt := 256) hx hb dX14_readName_252 (by decide) ?_
                              refine lv_iconst (v := 5) hx hb dX14_readName_256 (by decide) ?_
                              refine lv_iload_n hx hb dX14_readName_257 rfl (lv_at hl 5 rfl) ?_
                              have hs_1178 := sE_1 g 3 rfl (by have h9_0 := bo_; unfold bd at h9_0; have h9_1 := bop_; unfold bd at h9_1; have h9_2 := h_1126; unfold bd at h9_2; have h9_3 := h_878; unfold bd at h9_3; have h9_4 := bso_; unfold bd at h9_4; have h9_5 := b_1100; unfold bd at h9_5; have h9_6 := b_1071; unfold bd at h9_6; have h9_7 := b_872; unfold bd at h9_7; have h9_8 := b_1081; unfold bd at h9_8; have h9_9 := b_1166; unfold bd at h9_9; have h9_10 := b_1177; unfold bd at h9_10; have h9_11 := h_19; unfold bd at h9_11; have h9_12 := bx_2; unfold bd at h9_12; have h9_13 := h_9; unfold bd at h9_13; have h9_14 := b_1113; unfold bd at h9_14; have h8_0 := kb_0; unfold bd at h8_0; have h8_1 := kb_1; unfold bd at h8_1; have h8_2 := kb_1200; unfold bd at h8_2; have h8_3 := kb_2000; unfold bd at h8_3; have h8_4 := kb_m1; unfold bd at h8_4; omega)
                              have go_ := g
                              refine g_callEv (As := [.int 1, .int 5, .int x_2]) (rest := []) ⟨hx, hb, hml, hown, hts⟩ (r_X14_need_3 l dC dI L kd tys fr_1122 H.size g.2.2.2.1 a0_ ma0_ ka0_ 1 kb_1 5 x_2) (cwV 3 hts (gV_ t_2403 t_2405 t_100 t_198 t_2406) rfl rfl rfl (by decide +kernel) ⟨(show 0 + 1 ≤ N + 1 + 24 by omega), (show 8 + (4 + 11) + 0 ≤ 60 * (N + 1) + 700 by omega)⟩) (pre3V g hK ma0_ ka0_ (by decide) (q := (RX14, TX14, 67)) rfl) rfl hl.1 rfl (lv_room (Nat.le_of_ble_eq_true rfl)) dX14_readName_258 (cl_f hck_0) g hK (by decide) (by decide) (fx' := [(12, 26, q0_, .ref a_1167), (14, 22, a0_, .int x_1164), (12, 58, q0_, .int y_1112), (14, 6, a0_, .int x_18), (14, 10, a0_, .int x_8), (14, 2, a0_, .ref q0_), (14, 16, a0_, .int o_), (14, 25, a0_, .int op_)]) rfl (fun xr_1179 fr_1179 H locs mxr_1179 kxr_1179 hp hMr_1179 g => ?_) (fun fr_1179 H locs hp hMr_1179 g => ?_)
                              · have hG_1180 := isN.frame hMr_1179 go_.2.2.2.1 ma0_ ka0_ (by decide) (by decide) hG_1131
                                have hG_1181 := cEq.frame hMr_1179 go_.2.2.2.1 ma0_ ka0_ (by decide) (by decide) hG_1132
                                have hG_1182 := isV.frame hMr_1179 go_.2.2.2.1 mq0_ kq0_ (by decide) (by decide) hG_1133
                                have hG_1183 := FR.frame hMr_1179 go_.2.2.2.1 mq0_ kq0_ (by decide) (by decide) hG_1134
                                exact hp.elim
                              · have hG_1184 := isN.frame hMr_1179 go_.2.2.2.1 ma0_ ka0_ (by decide) (by decide) hG_1131
                                have hG_1185 := cEq.frame hMr_1179 go_.2.2.2.1 ma0_ ka0_ (by decide) (by decide) hG_1132
                                have hG_1186 := isV.frame hMr_1179 go_.2.2.2.1 mq0_ kq0_ (by decide) (by decide) hG_1133
                                have hG_1187 := FR.frame hMr_1179 go_.2.2.2.1 mq0_ kq0_ (by decide) (by decide) hG_1134
                                have hl9 := lv_sub hl [0, 1, 2, 3, 4, 5, 6, 7, 8] (by rfl : lv_pick [(10, .int r_1122), (9, .int 1), (8, .int t_), (6, .long x_4), (4, .long x_3), (3, .int x_2), (0, .ref a0_), (1, .int x1_), (2, .int x2_)] [0, 1, 2, 3, 4, 5, 6, 7, 8] = [(10, .int r_1122), (9, .int 1), (8, .int t_), (6, .long x_4), (4, .long x_3), (3, .int x_2), (0, .ref a0_), (1, .int x1_), (2, .int x2_)])
                                have g9 := g.sub (fx' := [(14, 22, a0_, .int x_1164), (12, 58, q0_, .int y_1112), (14, 6, a0_, .int x_18), (14, 10, a0_, .int x_8), (14, 2, a0_, .ref q0_), (14, 16, a0_, .int o_), (14, 25, a0_, .int op_)]) [1, 2, 3, 4, 5, 6, 7] rfl
                                exact join_1136 x_1164 _ _ _ _ (bd_sub b_1166 (by decide)) g9 hG_1184 hG_1185 hG_1186 hG_1187 hl9
                          · have fc_1165 := eq_f c_1165
                            have b_1188 : bd 0 0 x_1164 := eqX fc_1165 bx_1164 kb_0 (by decide)
                            refine lv_aload_n hx hb dX14_readName_231 rfl (lv_at hl 6 rfl) ?_
                            refine g_geti (C := RX14) (T := TX14) (N := 67) hx hb hts (mc_ inX14) hown hK g ma0_ ka0_ (by decide) rfl 24 (by decide) rfl (hts _ (List.mem_cons_of_mem _ t_2170)) (fun _ h9 => h9) rfl dX14_readName_232 (fun x_1189 bx_1189 g => ?_)
                            refine lv_if_eq (tgt := 251) hx hb dX14_readName_235 (by decide) (fun c_1190 => ?_) (fun c_1190 => ?_)
                            · have fc_1190 := eq_f c_1190
                              have b_1191 : bd 0 0 x_1189 := eqX fc_1190 bx_1189 kb_0 (by decide)
                              refine lv_iconst (v := 1) hx hb dX14_readName_251 (by decide) ?_
                              refine lv_goto (tgt := 256) hx hb dX14_readName_252 (by decide) ?_
                              refine lv_iconst (v := 5) hx hb dX14_readName_256 (by decide) ?_
                              refine lv_iload_n hx hb dX14_readName_257 rfl (lv_at hl 5 rfl) ?_
                              have hs_1192 := sE_1 g 3 rfl (by have h9_0 := bo_; unfold bd at h9_0; have h9_1 := bop_; unfold bd at h9_1; have h9_2 := h_1126; unfold bd at h9_2; have h9_3 := h_878; unfold bd at h9_3; have h9_4 := bso_; unfold bd at h9_4; have h9_5 := b_1100; unfold bd at h9_5; have h9_6 := b_1071; unfold bd at h9_6; have h9_7 := b_872; unfold bd at h9_7; have h9_8 := b_1081; unfold bd at h9_8; have h9_9 := b_1188; unfold bd at h9_9; have h9_10 := b_1191; unfold bd at h9_10; have h9_11 := h_19; unfold bd at h9_11; have h9_12 := bx_2; unfold bd at h9_12; have h9_13 := h_9; unfold bd at h9_13; have h9_14 := b_1113; unfold bd at h9_14; have h8_0 := kb_0; unfold bd at h8_0; have h8_1 := kb_1; unfold bd at h8_1; have h8_2 := kb_1200; unfold bd at h8_2; have h8_3 := kb_2000; unfold bd at h8_3; have h8_4 := kb_m1; unfold bd at h8_4; omega)
                              have go_ := g
                              refine g_callEv (As := [.int 1, .int 5, .int x_2]) (rest := []) ⟨hx, hb, hml, hown, hts⟩ (r_X14_need_3 l dC dI L kd tys fr_1122 H.size g.2.2.2.1 a0_ ma0_ ka0_ 1 kb_1 5 x_2) (cwV 3 hts (gV_ t_2403 t_2405 t_100 t_198 t_2406) rfl rfl rfl (by decide +kernel) ⟨(show 0 + 1 ≤ N + 1 + 24 by omega), (show 8 + (4 + 11) + 0 ≤ 60 * (N + 1) + 700 by omega)⟩) (pre3V g hK ma0_ ka0_ (by decide) (q := (RX14, TX14, 67)) rfl) rfl hl.1 rfl (lv_room (Nat.le_of_ble_eq_true rfl)) dX14_readName_258 (cl_f hck_0) g hK (by decide) (by decide) (fx' := [(14, 24, a0_, .int x_1189), (14, 22, a0_, .int x_1164), (12, 58, q0_, .int y_1112), (14, 6, a0_, .int x_18), (14, 10, a0_, .int x_8), (14, 2, a0_, .ref q0_), (14, 16, a0_, .int o_), (14, 25, a0_, .int op_)]) rfl (fun xr_1193 fr_1193 H locs mxr_1193 kxr_1193 hp hMr_1193 g => ?_) (fun fr_1193 H locs hp hMr_1193 g => ?_)
                              · have hG_1194 := isN.frame hMr_1193 go_.2.2.2.1 ma0_ ka0_ (by decide) (by decide) hG_1131
                                have hG_1195 := cEq.frame hMr_1193 go_.2.2.2.1 ma0_ ka0_ (by decide) (by decide) hG_1132
                                have hG_1196 := isV.frame hMr_1193 go_.2.2.2.1 mq0_ kq0_ (by decide) (by decide) hG_1133
                                have hG_1197 := FR.frame hMr_1193 go_.2.2.2.1 mq0_ kq0_ (by decide) (by decide) hG_1134
                                exact hp.elim
                              · have hG_1198 := isN.frame hMr_1193 go_.2.2.2.1 ma0_ ka0_ (by decide) (by decide) hG_1131
                                have hG_1199 := cEq.frame hMr_1193 go_.2.2.2.1 ma0_ ka0_ (by decide) (by decide) hG_1132
                                have hG_1200 := isV.frame hMr_1193 go_.2.2.2.1 mq0_ kq0_ (by decide) (by decide) hG_1133
                                have hG_1201 := FR.frame hMr_1193 go_.2.2.2.1 mq0_ kq0_ (by decide) (by decide) hG_1134
                                have hl9 := lv_sub hl [0, 1, 2, 3, 4, 5, 6, 7, 8] (by rfl : lv_pick [(10, .int r_1122), (9, .int 1), (8, .int t_), (6, .long x_4), (4, .long x_3), (3, .int x_2), (0, .ref a0_), (1, .int x1_), (2, .int x2_)] [0, 1, 2, 3, 4, 5, 6, 7, 8] = [(10, .int r_1122), (9, .int 1), (8, .int t_), (6, .long x_4), (4, .long x_3), (3, .int x_2), (0, .ref a0_), (1, .int x1_), (2, .int x2_)])
                                have g9 := g.sub (fx' := [(14, 22, a0_, .int x_1164), (12, 58, q0_, .int y_1112), (14, 6, a0_, .int x_18), (14, 10, a0_, .int x_8), (14, 2, a0_, .ref q0_), (14, 16, a0_, .int o_), (14, 25, a0_, .int op_)]) [1, 2, 3, 4, 5, 6, 7] rfl
                                exact join_1136 x_1164 _ _ _ _ (bd_sub b_1188 (by decide)) g9 hG_1198 hG_1199 hG_1200 hG_1201 hl9
                            · have fc_1190 := neq_f c_1190
                              have b_1202 : bd 1 1 x_1189 := neX fc_1190 bx_1189 kb_0 (by decide)
                              refine lv_aload_n hx hb dX14_readName_238 rfl (lv_at hl 6 rfl) ?_
                              refine g_getk (C := RX14) (T := TX14) (N := 67) hx hb hts (mc_ inX14) hown hK g rfl 2 (by decide) rfl (hts _ (List.mem_cons_of_mem _ t_2148)) (fun _ h9 => h9) 5 rfl dX14_readName_239 ?_
                              refine g_getr (K := 182) (C := RX12) (T := TX12) (N := 60) hx hb hts (mc_ inX12) hown hK g mq0_ kq0_ (by decide) rfl 26 (by decide) rfl (hts _ (List.mem_cons_of_mem _ t_1958)) (fun _ h9 => h9) rfl dX14_readName_242 (fun a_1203 ma_1203 ka_1203 g => ?_)
                              refine lv_iload hx hb dX14_readName_245 (lv_at hl 0 rfl) ?_
                              refine g_zald hx hb hK g ma_1203 ka_1203 (by decide) rfl (in_bd h_1126 (by decide)) dX14_readName_247 (fun x_1204 bx_1204 => ?_)
                              refine lv_if_eq (tgt := 255) hx hb dX14_readName_248 (by decide) (fun c_1205 => ?_) (fun c_1205 => ?_)
                              · have fc_1205 := eq_f c_1205
                                have b_1206 : bd 0 0 x_1204 := eqX fc_1205 bx_1204 kb_0 (by decide)
                                refine lv_iconst (v := 0) hx hb dX14_readName_255 (by decide) ?_
                                refine lv_iconst (v := 5) hx hb dX14_readName_256 (by decide) ?_
                                refine lv_iload_n hx hb dX14_readName_257 rfl (lv_at hl 5 rfl) ?_
                                have hs_1207 := sE_1 g 4 rfl (by have h9_0 := bo_; unfold bd at h9_0; have h9_1 := bop_; unfold bd at h9_1; have h9_2 := h_1126; unfold bd at h9_2; have h9_3 := h_878; unfold bd at h9_3; have h9_4 := bso_; unfold bd at h9_4; have h9_5 := b_1100; unfold bd at h9_5; have h9_6 := b_1071; unfold bd at h9_6; have h9_7 := b_872; unfold bd at h9_7; have h9_8 := b_1081; unfold bd at h9_8; have h9_9 := b_1188; unfold bd at h9_9; have h9_10 := b_1202; unfold bd at h9_10; have h9_11 := b_1206; unfold bd at h9_11; have h9_12 := h_19; unfold bd at h9_12; have h9_13 := bx_2; unfold bd at h9_13; have h9_14 := h_9; unfold bd at h9_14; have h9_15 := b_1113; unfold bd at h9_15; have h8_0 := kb_0; unfold bd at h8_0; have h8_1 := kb_1; unfold bd at h8_1; have h8_2 := kb_1200; unfold bd at h8_2; have h8_3 := kb_2000; unfold bd at h8_3; have h8_4 := kb_m1; unfold bd at h8_4; omega)
                                have go_ := g
                                refine g_callEv (As := [.int 0, .int 5, .int x_2]) (rest := []) ⟨hx, hb, hml, hown, hts⟩ (r_X14_need_2 l dC dI L kd tys fr_1122 H.size g.2.2.2.1 a0_ ma0_ ka0_ 0 kb_0 5 x_2) (cwV 3 hts (gV_ t_2403 t_2405 t_100 t_198 t_2406) rfl rfl rfl (by decide +kernel) ⟨(show 1 + 1 ≤ N + 1 + 24 by omega), (show 8 + (4 + 11) + 22 ≤ 60 * (N + 1) + 700 by omega)⟩) (pre3V g hK ma0_ ka0_ (by decide) (q := (RX14, TX14, 67)) rfl) rfl hl.1 rfl (lv_room (Nat.le_of_ble_eq_true rfl)) dX14_readName_258 (cl_f hck_0) g hK (by decide) (by decide) (fx' := [(12, 26, q0_, .ref a_1203), (14, 24, a0_, .int x_1189), (14, 22, a0_, .int x_1164), (12, 58, q0_, .int y_1112), (14, 6, a0_, .int x_18), (14, 10, a0_, .int x_8), (14, 2, a0_, .ref q0_), (14, 16, a0_, .int o_), (14, 25, a0_, .int op_)]) rfl (fun xr_1208 fr_1208 H locs mxr_1208 kxr_1208 hp hMr_1208 g => ?_) (fun fr_1208 H locs hp hMr_1208 g => ?_)
                                · have hG_1209 := isN.frame hMr_1208 go_.2.2.2.1 ma0_ ka0_ (by decide) (by decide) hG_1131
                                  have hG_1210 := cEq.frame hMr_1208 go_.2.2.2.1 ma0_ ka0_ (by decide) (by decide) hG_1132
                                  have hG_1211 := isV.frame hMr_1208 go_.2.2.2.1 mq0_ kq0_ (by decide) (by decide) hG_1133
                                  have hG_1212 := FR.frame hMr_1208 go_.2.2.2.1 mq0_ kq0_ (by decide) (by decide) hG_1134
                                  subst hQ
                                  exact leavesX hempty hlocks (fun t ht hW => g_thrX g hK mxr_1208 kxr_1208 (by omega) ht hW) g.2.2.1.2.2
                                · exact hp.elim
                              · have fc_1205 := neq_f c_1205
                                have b_1213 : bd 1 1 x_1204 := neX fc_1205 bx_1204 kb_0 (by decide)
                                refine lv_iconst (v := 1) hx hb dX14_readName_251 (by decide) ?_
                                refine lv_goto (tgt := 256) hx hb dX14_readName_252 (by decide) ?_
                                refine lv_iconst (v := 5) hx hb dX14_readName_256 (by decide) ?_
                                refine lv_iload_n hx hb dX14_readName_257 rfl (lv_at hl 5 rfl) ?_
                                have hs_1214 := sE_1 g 4 rfl (by have h9_0 := bo_; unfold bd at h9_0; have h9_1 := bop_; unfold bd at h9_1; have h9_2 := h_1126; unfold bd at h9_2; have h9_3 := h_878; unfold bd at h9_3; have h9_4 := bso_; unfold bd at h9_4; have h9_5 := b_1100; unfold bd at h9_5; have h9_6 := b_1071; unfold bd at h9_6; have h9_7 := b_872; unfold bd at h9_7; have h9_8 := b_1081; unfold bd at h9_8; have h9_9 := b_1188; unfold bd at h9_9; have h9_10 := b_1202; unfold bd at h9_10; have h9_11 := b_1213; unfold bd at h9_11; have h9_12 := h_19; unfold bd at h9_12; have h9_13 := bx_2; unfold bd at h9_13; have h9_14 := h_9; unfold bd at h9_14; have h9_15 := b_1113; unfold bd at h9_15; have h8_0 := kb_0; unfold bd at h8_0; have h8_1 := kb_1; unfold bd at h8_1; have h8_2 := kb_1200; unfold bd at h8_2; have h8_3 := kb_2000; unfold bd at h8_3; have h8_4 := kb_m1; unfold bd at h8_4; omega)
                                have go_ := g
                                refine g_callEv (As := [.int 1, .int 5, .int x_2]) (rest := []) ⟨hx, hb, hml, hown, hts⟩ (r_X14_need_3 l dC dI L kd tys fr_1122 H.size g.2.2.2.1 a0_ ma0_ ka0_ 1 kb_1 5 x_2) (cwV 3 hts (gV_ t_2403 t_2405 t_100 t_198 t_2406) rfl rfl rfl (by decide +kernel) ⟨(show 0 + 1 ≤ N + 1 + 24 by omega), (show 8 + (4 + 11) + 0 ≤ 60 * (N + 1) + 700 by omega)⟩) (pre3V g hK ma0_ ka0_ (by decide) (q := (RX14, TX14, 67)) rfl) rfl hl.1 rfl (lv_room (Nat.le_of_ble_eq_true rfl)) dX14_readName_258 (cl_f hck_0) g hK (by decide) (by decide) (fx' := [(12, 26, q0_, .ref a_1203), (14, 24, a0_, .int x_1189), (14, 22, a0_, .int x_1164), (12, 58, q0_, .int y_1112), (14, 6, a0_, .int x_18), (14, 10, a0_, .int x_8), (14, 2, a0_, .ref q0_), (14, 16, a0_, .int o_), (14, 25, a0_, .int op_)]) rfl (fun xr_1215 fr_1215 H locs mxr_1215 kxr_1215 hp hMr_1215 g => ?_) (fun fr_1215 H locs hp hMr_1215 g => ?_)
                                · have hG_1216 := isN.frame hMr_1215 go_.2.2.2.1 ma0_ ka0_ (by decide) (by decide) hG_1131
                                  have hG_1217 := cEq.frame hMr_1215 go_.2.2.2.1 ma0_ ka0_ (by decide) (by decide) hG_1132
                                  have hG_1218 := isV.frame hMr_1215 go_.2.2.2.1 mq0_ kq0_ (by decide) (by decide) hG_1133
                                  have hG_1219 := FR.frame hMr_1215 go_.2.2.2.1 mq0_ kq0_ (by decide) (by decide) hG_1134
                                  exact hp.elim
                                · have hG_1220 := isN.frame hMr_1215 go_.2.2.2.1 ma0_ ka0_ (by decide) (by decide) hG_1131
                                  have hG_1221 := cEq.frame hMr_1215 go_.2.2.2.1 ma0_ ka0_ (by decide) (by decide) hG_1132
                                  have hG_1222 := isV.frame hMr_1215 go_.2.2.2.1 mq0_ kq0_ (by decide) (by decide) hG_1133
                                  have hG_1223 := FR.frame hMr_1215 go_.2.2.2.1 mq0_ kq0_ (by decide) (by decide) hG_1134
                                  have hl9 := lv_sub hl [0, 1, 2, 3, 4, 5, 6, 7, 8] (by rfl : lv_pick [(10, .int r_1122), (9, .int 1), (8, .int t_), (6, .long x_4), (4, .long x_3), (3, .int x_2), (0, .ref a0_), (1, .int x1_), (2, .int x2_)] [0, 1, 2, 3, 4, 5, 6, 7, 8] = [(10, .int r_1122), (9, .int 1), (8, .int t_), (6, .long x_4), (4, .long x_3), (3, .int x_2), (0, .ref a0_), (1, .int x1_), (2, .int x2_)])
                                  have g9 := g.sub (fx' := [(14, 22, a0_, .int x_1164), (12, 58, q0_, .int y_1112), (14, 6, a0_, .int x_18), (14, 10, a0_, .int x_8), (14, 2, a0_, .ref q0_), (14, 16, a0_, .int o_), (14, 25, a0_, .int op_)]) [2, 3, 4, 5, 6, 7, 8] rfl
                                  exact join_1136 x_1164 _ _ _ _ (bd_sub b_1188 (by decide)) g9 hG_1220 hG_1221 hG_1222 hG_1223 hl9
