set_option maxHeartbeats 4000000 in
set_option maxRecDepth 100000 in
theorem r_X14_readName (N : Nat) (ih : RecR N) (l : Launch) (dC : Nat → ClassId) (dI : Nat → Nat → Nat) (L : List Nat) (kd : Nat → Nat) (tys : List (ClassId × FieldType)) (f0 : Nat → va_E) (sz : Nat) (hWT : WT L kd tys f0) (adK adV : Nat → Nat) (a0_ : Nat) (ma0_ : a0_ ∈ L) (ka0_ : kd a0_ = 14) (x1_ : Int32) (bx1_ : bd 0 1 x1_) (x2_ : Int32) (bx2_ : bd 0 1 x2_) (q0_ : Nat) (mq0_ : q0_ ∈ L) (kq0_ : kd q0_ = 12) (V_ : PV) (o_ : Int32) (bo_ : bd 0 7 o_) (op_ : Int32) (bop_ : bd 0 40 op_) (t_ : Int32) (bt_ : bd 0 1201 t_) (so_ : Int32) (bso_ : bd 1 4 so_) (hV : isV f0 q0_ V_) (hwf : wfN V_ (V_.n 57).toInt) (ho : (o_.toNatClampNeg : Int) < (V_.n 0).toInt) (hnn : (V_.n 57).toInt ≤ cF f0 a0_) (hm_ : Int) (hhm : 12 ≤ hm_ ∧ hm_ ≤ 13 ∧ (x1_.toInt = 0 → hm_ = 13)) (K_ : Nat) (hK_ : 1204 ≤ 2 * (K_ : Int) + cF f0 a0_) (hN : 11 * (40 - op_.toInt) + 2 ≤ ((N + 1 : Nat) : Int)) (hfx : Fs L kd f0 [(14, 2, a0_, .ref q0_), (14, 16, a0_, .int o_), (14, 25, a0_, .int op_), (14, 10, a0_, .int t_), (14, 6, a0_, .int so_)]) : MetX l yX14_readName (.code yX14_readName cX14_readName 11 (some .int) :: lw_g) ({ frames := (N + 1) + 24, cells := K_, slots := 3 * K_, locals := 60 * (N + 1) + 700 }) (va_Pc [.ref a0_, .int x1_, .int x2_] (P3A (dC, dI) L tys f0 sz adK adV)) (q3Z (dC, dI) L kd tys [(12, 57), (12, 58), (14, 6), (14, 7), (14, 8), (14, 9), (14, 10), (14, 11), (14, 12), (14, 13), (14, 14), (14, 15), (14, 25)] [180, 201, 202, 203, 204, 205, 206, 207, 208, 209, 210] f0 sz (pXi (fun (r : Int32) (f : Nat → va_E) (k : Nat) => (rdP L kd f0 a0_ q0_ V_ o_ (hm_) 0 r f k (fun v => (v.toInt = 2 ∨ v.toInt = 3) ∧ (x2_.toInt = 1 → v.toInt = 2))) ∧ ∃ z1_ : Int32, bd 0 1201 z1_ ∧ Fs L kd f [(14, 25, a0_, .int op_), (14, 10, a0_, .int z1_)])) (fun (f : Nat → va_E) (k : Nat) => FR L kd f0 f q0_ ∧ 2 * (k : Int) + cF f0 a0_ ≤ 1203)) (pA L sz) := by
  refine MetX.ofW (cc := cX14_readName) (maxL := 11) (ret := (some .int)) (by decide) rfl ?_
  intro p e s m args below meth c s₁ B hml hempty hv
  obtain ⟨rfl, ⟨hsz, hP, hK, hD0⟩, hAm⟩ := hv
  have hx := B.exec
  have hb := B.bytes
  have hr := B.returns
  have hts := atoms_spec (ws := (.code yX14_readName cX14_readName 11 (some .int) :: lw_g)) B.pre
  have hown : s.vm.findClass RX14 = some m.cls := findClass_of_methodNamed B.named
  have hlocks := B.notSynchronized
  subst hsz
  have g : G3 (dC, dI) L kd tys s f0 [(12, 57), (12, 58), (14, 6), (14, 7), (14, 8), (14, 9), (14, 10), (14, 11), (14, 12), (14, 13), (14, 14), (14, 15), (14, 25)] [180, 201, 202, 203, 204, 205, 206, 207, 208, 209, 210] f0 s.heap [] [(14, 2, a0_, .ref q0_), (14, 16, a0_, .int o_), (14, 25, a0_, .int op_), (14, 10, a0_, .int t_), (14, 6, a0_, .int so_)] := G3.start hP hD0 hWT hfx
  have hl := lv_entry ([.ref a0_, .int x1_, .int x2_]) (n := 11) (Nat.le_of_ble_eq_true rfl)
  rw [lg_entry_eq]
  generalize (lg_sl ([.ref a0_, .int x1_, .int x2_]) ++ List.replicate (11 - (lg_sl ([.ref a0_, .int x1_, .int x2_])).length) Slot.unset).toArray = ls at hl ⊢
  have hl : lv_has ls 11 [(0, .ref a0_), (1, .int x1_), (2, .int x2_)] := hl
  refine W_q (fun Q hQ => ?_)
  refine W_c0 (fun cl_0 hc_0 => ?_)
  have hck_0 : cl_0 ≤ K_ := by omega
  have hC_0 : cEq f0 a0_ (cF f0 a0_) := rfl
  have hm_0 : cF f0 a0_ ≤ 1202 := cF_le g ma0_ ka0_
  have hm_1 : -1 ≤ cF f0 a0_ := cF_ge g ma0_ ka0_
  obtain ⟨N_, hNN_1⟩ := isN.ex g ma0_ ka0_
  refine lv_aload_n hx hb dX14_readName_0 rfl (lv_at hl 0 rfl) ?_
  refine g_geti (C := RX14) (T := TX14) (N := 67) hx hb hts (mc_ inX14) hown hK g ma0_ ka0_ (by decide) rfl 8 (by decide) rfl (hts _ (List.mem_cons_of_mem _ t_2154)) (fun _ h9 => h9) rfl dX14_readName_1 (fun x_2 bx_2 g => ?_)
  refine lv_istore_n (lv' := [(3, .int x_2), (0, .ref a0_), (1, .int x1_), (2, .int x2_)]) hx hb dX14_readName_4 rfl hl (by decide) rfl (fun ls hl => ?_)
  refine lv_aload_n hx hb dX14_readName_5 rfl (lv_at hl 1 rfl) ?_
  refine g_getl (C := RX14) (T := TX14) (N := 67) hx hb hts (mc_ inX14) hown hK g ma0_ ka0_ (by decide) rfl 12 (by decide) rfl (hts _ (List.mem_cons_of_mem _ t_2158)) (fun _ h9 => h9) rfl dX14_readName_6 (fun x_3 g => ?_)
  refine lv_lstore (lv' := [(4, .long x_3), (3, .int x_2), (0, .ref a0_), (1, .int x1_), (2, .int x2_)]) hx hb dX14_readName_9 hl (by decide) rfl (fun ls hl => ?_)
  refine lv_aload_n hx hb dX14_readName_11 rfl (lv_at hl 2 rfl) ?_
  refine g_getl (C := RX14) (T := TX14) (N := 67) hx hb hts (mc_ inX14) hown hK g ma0_ ka0_ (by decide) rfl 13 (by decide) rfl (hts _ (List.mem_cons_of_mem _ t_2159)) (fun _ h9 => h9) rfl dX14_readName_12 (fun x_4 g => ?_)
  refine lv_lstore (lv' := [(6, .long x_4), (4, .long x_3), (3, .int x_2), (0, .ref a0_), (1, .int x1_), (2, .int x2_)]) hx hb dX14_readName_15 hl (by decide) rfl (fun ls hl => ?_)
  refine lv_aload_n hx hb dX14_readName_17 rfl (lv_at hl 3 rfl) ?_
  refine g_getk (C := RX14) (T := TX14) (N := 67) hx hb hts (mc_ inX14) hown hK g rfl 10 (by decide) rfl (hts _ (List.mem_cons_of_mem _ t_2156)) (fun _ h9 => h9) 6 rfl dX14_readName_18 ?_
  refine lv_istore (lv' := [(8, .int t_), (6, .long x_4), (4, .long x_3), (3, .int x_2), (0, .ref a0_), (1, .int x1_), (2, .int x2_)]) hx hb dX14_readName_21 hl (by decide) rfl (fun ls hl => ?_)
  refine lv_aload_n hx hb dX14_readName_23 rfl (lv_at hl 4 rfl) ?_
  have hs_5 := sE_1 g 7 rfl (by have h9_0 := bo_; unfold bd at h9_0; have h9_1 := bop_; unfold bd at h9_1; have h9_2 := bso_; unfold bd at h9_2; have h9_3 := bt_; unfold bd at h9_3; have h9_4 := bx1_; unfold bd at h9_4; have h9_5 := bx2_; unfold bd at h9_5; have h9_6 := bx_2; unfold bd at h9_6; omega)
  have go_ := g
  refine g_callv (va_runV (As := []) (rest := []) ⟨hx, hb, hml, hown, hts⟩ (r_X14_scan_3 l dC dI L kd tys f0 s.heap.size g.2.2.2.1 adK adV a0_ ma0_ ka0_ t_ bt_ so_ bso_ (g.fcts [6, 7] rfl)) (cwV 0 hts (gV_ t_2360 t_2362 t_92 t_198 t_2363) rfl rfl rfl (by decide +kernel) ⟨(show 5 + 1 ≤ N + 1 + 24 by omega), (show 8 + (4 + 11) + 112 ≤ 60 * (N + 1) + 700 by omega)⟩) (pre3VA g hK hAm ma0_ ka0_ (by decide) (q := (RX14, TX14, 67)) rfl) rfl rfl hl.1 rfl (lv_room (Nat.le_of_ble_eq_true rfl)) dX14_readName_24 (cl_f hck_0)) g hK (by decide) (by decide) (fx' := [(14, 2, a0_, .ref q0_), (14, 16, a0_, .int o_), (14, 25, a0_, .int op_)]) rfl (fun fr_6 H locs hp hMr_6 g => ?_)
  obtain ⟨hx_7, x_8, ⟨h_9, rh_9⟩, hF_10⟩ := hp
  have hG_11 := isV.frame hMr_6 go_.2.2.2.1 mq0_ kq0_ (by decide) (by decide) hV
  have hG_12 := FR.frame hMr_6 go_.2.2.2.1 mq0_ kq0_ (by decide) (by decide) FR.refl
  have hG_13 := isN.frame hMr_6 go_.2.2.2.1 ma0_ ka0_ (by decide) (by decide) hNN_1
  obtain ⟨E_14, hE_14⟩ : ∃ E : Int, cEq fr_6 a0_ E := ⟨_, rfl⟩
  have mxE_14 : E_14 ≤ 1202 := by have h9 := cF_le g ma0_ ka0_; have h8 : cF _ _ = _ := hE_14; omega
  have lE_14 : (cF f0 a0_) + 1 ≤ E_14 := by have h9 := hx_7; have h8 : cF _ _ = _ := hE_14; have h7 : cF _ _ = _ := hC_0; have h6 := hs_5; have h5 := tk_c (f := f0) (t := a0_); omega
  have g := g.more hF_10
  refine lv_aload_n hx hb dX14_readName_27 rfl (lv_at hl 4 rfl) ?_
  refine lv_bipush (v := 40) hx hb dX14_readName_28 (by decide) ?_
  have go_ := g
  refine g_calli (va_runV (As := [.int 40]) (rest := []) ⟨hx, hb, hml, hown, hts⟩ (r_X14_isSign l dC dI L kd tys fr_6 H.size g.2.2.2.1 a0_ ma0_ ka0_ 40) (cwV 1 hts (gV_ t_2435 t_2437 t_108 t_198 t_2438) rfl rfl rfl (by decide +kernel) ⟨(show 0 + 1 ≤ N + 1 + 24 by omega), (show 8 + (2 + 11) + 0 ≤ 60 * (N + 1) + 700 by omega)⟩) (pre3V g hK ma0_ ka0_ (by decide) (q := (RX14, TX14, 67)) rfl) rfl rfl hl.1 rfl (lv_room (Nat.le_of_ble_eq_true rfl)) dX14_readName_30 (cl_f hck_0)) g hK (by decide) (by decide) (fx' := [(14, 10, a0_, .int x_8), (14, 2, a0_, .ref q0_), (14, 16, a0_, .int o_), (14, 25, a0_, .int op_)]) rfl (fun r_15 fr_15 H locs hp hMr_15 g => ?_)
  rcases hp with ⟨h_16, -⟩ | ⟨h_17, x_18, h_19, hF_20⟩
  · have hG_21 := isV.frame hMr_15 go_.2.2.2.1 mq0_ kq0_ (by decide) (by decide) hG_11
    have hG_22 := FR.frame hMr_15 go_.2.2.2.1 mq0_ kq0_ (by decide) (by decide) hG_12
    have hG_23 := isN.frame hMr_15 go_.2.2.2.1 ma0_ ka0_ (by decide) (by decide) hG_13
    have hG_24 := cEq.frame hMr_15 go_.2.2.2.1 ma0_ ka0_ (by decide) (by decide) hE_14
    obtain rfl : r_15 = 0 := h_16
    refine lv_if_eq (tgt := 44) hx hb dX14_readName_33 (by decide) (fun c_ => ?_) (fun c_ => absurd (by decide) c_)
    refine lv_iconst (v := 0) hx hb dX14_readName_44 (by decide) ?_
    refine lv_istore (lv' := [(9, .int 0), (8, .int t_), (6, .long x_4), (4, .long x_3), (3, .int x_2), (0, .ref a0_), (1, .int x1_), (2, .int x2_)]) hx hb dX14_readName_45 hl (by decide) rfl (fun ls hl => ?_)
    have join_25 : ∀ (f : Nat → va_E) (H : Heap) (locs : List Loc) (ls : Array Slot), G3 (dC, dI) L kd tys s f0 [(12, 57), (12, 58), (14, 6), (14, 7), (14, 8), (14, 9), (14, 10), (14, 11), (14, 12), (14, 13), (14, 14), (14, 15), (14, 25)] [180, 201, 202, 203, 204, 205, 206, 207, 208, 209, 210] f H locs [(14, 10, a0_, .int x_8), (14, 2, a0_, .ref q0_), (14, 16, a0_, .int o_), (14, 25, a0_, .int op_)] → isV f q0_ V_ → FR L kd f0 f q0_ → isN f a0_ N_ → cEq f a0_ E_14 → (nmd N_ V_ o_.toNatClampNeg x_3 x_4) → lv_has ls 11 [(9, .int 0), (8, .int t_), (6, .long x_4), (4, .long x_3), (3, .int x_2), (0, .ref a0_), (1, .int x1_), (2, .int x2_)] → W p l e ({ frames := (N + 1) + 24, cells := K_, slots := 3 * K_, locals := 60 * (N + 1) + 700 } : Room) s m [.ref a0_, .int x1_, .int x2_].toArray below meth c H locs cl_0 (3 * cl_0) Q (F0 m 93 ls []) := by
      intro  f H locs ls  g hJ93_V_q0_ hJ93_F_q0_ hJ93_N_a0_ hJ93_C_a0_ hd93 hl
      refine lv_aload_n hx hb dX14_readName_93 rfl (lv_at hl 5 rfl) ?_
      refine lv_iload_n hx hb dX14_readName_94 rfl (lv_at hl 6 rfl) ?_
      have kb_0 : bd 0 0 (0 : Int32) := ⟨by decide, by decide⟩
      refine lv_if_eq (tgt := 119) hx hb dX14_readName_95 (by decide) (fun c_26 => ?_) (fun c_26 => ?_)
      · have fc_26 := eq_f c_26
        have b_27 : bd 0 0 x1_ := eqX fc_26 bx1_ kb_0 (by decide)
        refine lv_aload_n hx hb dX14_readName_119 rfl (lv_at hl 5 rfl) ?_
        refine g_getk (C := RX14) (T := TX14) (N := 67) hx hb hts (mc_ inX14) hown hK g rfl 2 (by decide) rfl (hts _ (List.mem_cons_of_mem _ t_2148)) (fun _ h9 => h9) 1 rfl dX14_readName_120 ?_
        refine g_getr (K := 180) (C := RX12) (T := TX12) (N := 60) hx hb hts (mc_ inX12) hown hK g mq0_ kq0_ (by decide) rfl 24 (by decide) rfl (hts _ (List.mem_cons_of_mem _ t_1954)) (fun _ h9 => h9) rfl dX14_readName_123 (fun a_28 ma_28 ka_28 g => ?_)
        refine lv_aload_n hx hb dX14_readName_126 rfl (lv_at hl 5 rfl) ?_
        refine g_geti (C := RX14) (T := TX14) (N := 67) hx hb hts (mc_ inX14) hown hK g ma0_ ka0_ (by decide) rfl 17 (by decide) rfl (hts _ (List.mem_cons_of_mem _ t_2163)) (fun _ h9 => h9) rfl dX14_readName_127 (fun x_29 bx_29 g => ?_)
        refine g_iald hx hb hK g ma_28 ka_28 (by decide) rfl (in_bd bx_29 (by decide)) dX14_readName_130 (fun x_30 bx_30 cx_30 => ?_)
        have vx_30 : x_30 = V_.i 24 x_29.toNatClampNeg := hJ93_V_q0_.at g 1 rfl rfl cx_30
        refine lv_bipush (v := 40) hx hb dX14_readName_131 (by decide) ?_
        have kb_40 : bd 40 40 (40 : Int32) := ⟨by decide, by decide⟩
        refine lv_icmp_ge (tgt := 140) hx hb dX14_readName_133 (by decide) (fun c_31 => ?_) (fun c_31 => ?_)
        · have fc_31 := le_f c_31
          have b_32 : bd 40 40 x_30 := leR fc_31 kb_40 bx_30 (by decide)
          refine lv_iconst (v := 0) hx hb dX14_readName_140 (by decide) ?_
          refine lv_iconst (v := 4) hx hb dX14_readName_141 (by decide) ?_
          refine lv_iload_n hx hb dX14_readName_142 rfl (lv_at hl 4 rfl) ?_
          have go_ := g
          refine g_callEv (As := [.int 0, .int 4, .int x_2]) (rest := []) ⟨hx, hb, hml, hown, hts⟩ (r_X14_need_2 l dC dI L kd tys f H.size g.2.2.2.1 a0_ ma0_ ka0_ 0 kb_0 4 x_2) (cwV 3 hts (gV_ t_2403 t_2405 t_100 t_198 t_2406) rfl rfl rfl (by decide +kernel) ⟨(show 1 + 1 ≤ N + 1 + 24 by omega), (show 8 + (4 + 11) + 22 ≤ 60 * (N + 1) + 700 by omega)⟩) (pre3V g hK ma0_ ka0_ (by decide) (q := (RX14, TX14, 67)) rfl) rfl hl.1 rfl (lv_room (Nat.le_of_ble_eq_true rfl)) dX14_readName_143 (cl_f hck_0) g hK (by decide) (by decide) (fx' := [(14, 17, a0_, .int x_29), (12, 24, q0_, .ref a_28), (14, 10, a0_, .int x_8), (14, 2, a0_, .ref q0_), (14, 16, a0_, .int o_), (14, 25, a0_, .int op_)]) rfl (fun xr_33 fr_33 H locs mxr_33 kxr_33 hp hMr_33 g => ?_) (fun fr_33 H locs hp hMr_33 g => ?_)
          · have hG_34 := isV.frame hMr_33 go_.2.2.2.1 mq0_ kq0_ (by decide) (by decide) hJ93_V_q0_
            have hG_35 := FR.frame hMr_33 go_.2.2.2.1 mq0_ kq0_ (by decide) (by decide) hJ93_F_q0_
            have hG_36 := isN.frame hMr_33 go_.2.2.2.1 ma0_ ka0_ (by decide) (by decide) hJ93_N_a0_
            have hG_37 := cEq.frame hMr_33 go_.2.2.2.1 ma0_ ka0_ (by decide) (by decide) hJ93_C_a0_
            subst hQ
            exact leavesX hempty hlocks (fun t ht hW => g_thrZ g hK mxr_33 kxr_33 ⟨hG_35, (by omega)⟩ ht hW) g.2.2.1.2.2
          · exact hp.elim
        · have fc_31 := nle_f c_31
          have b_38 : bd 0 39 x_30 := ltL fc_31 bx_30 kb_40 (by decide)
          refine lv_iconst (v := 1) hx hb dX14_readName_136 (by decide) ?_
          refine lv_goto (tgt := 141) hx hb dX14_readName_137 (by decide) ?_
          refine lv_iconst (v := 4) hx hb dX14_readName_141 (by decide) ?_
          refine lv_iload_n hx hb dX14_readName_142 rfl (lv_at hl 4 rfl) ?_
          have kb_1 : bd 1 1 (1 : Int32) := ⟨by decide, by decide⟩
          have go_ := g
          refine g_callEv (As := [.int 1, .int 4, .int x_2]) (rest := []) ⟨hx, hb, hml, hown, hts⟩ (r_X14_need_3 l dC dI L kd tys f H.size g.2.2.2.1 a0_ ma0_ ka0_ 1 kb_1 4 x_2) (cwV 3 hts (gV_ t_2403 t_2405 t_100 t_198 t_2406) rfl rfl rfl (by decide +kernel) ⟨(show 0 + 1 ≤ N + 1 + 24 by omega), (show 8 + (4 + 11) + 0 ≤ 60 * (N + 1) + 700 by omega)⟩) (pre3V g hK ma0_ ka0_ (by decide) (q := (RX14, TX14, 67)) rfl) rfl hl.1 rfl (lv_room (Nat.le_of_ble_eq_true rfl)) dX14_readName_143 (cl_f hck_0) g hK (by decide) (by decide) (fx' := [(14, 17, a0_, .int x_29), (12, 24, q0_, .ref a_28), (14, 10, a0_, .int x_8), (14, 2, a0_, .ref q0_), (14, 16, a0_, .int o_), (14, 25, a0_, .int op_)]) rfl (fun xr_39 fr_39 H locs mxr_39 kxr_39 hp hMr_39 g => ?_) (fun fr_39 H locs hp hMr_39 g => ?_)
          · have hG_40 := isV.frame hMr_39 go_.2.2.2.1 mq0_ kq0_ (by decide) (by decide) hJ93_V_q0_
            have hG_41 := FR.frame hMr_39 go_.2.2.2.1 mq0_ kq0_ (by decide) (by decide) hJ93_F_q0_
            have hG_42 := isN.frame hMr_39 go_.2.2.2.1 ma0_ ka0_ (by decide) (by decide) hJ93_N_a0_
            have hG_43 := cEq.frame hMr_39 go_.2.2.2.1 ma0_ ka0_ (by decide) (by decide) hJ93_C_a0_
            exact hp.elim
          · have hG_44 := isV.frame hMr_39 go_.2.2.2.1 mq0_ kq0_ (by decide) (by decide) hJ93_V_q0_
            have hG_45 := FR.frame hMr_39 go_.2.2.2.1 mq0_ kq0_ (by decide) (by decide) hJ93_F_q0_
            have hG_46 := isN.frame hMr_39 go_.2.2.2.1 ma0_ ka0_ (by decide) (by decide) hJ93_N_a0_
            have hG_47 := cEq.frame hMr_39 go_.2.2.2.1 ma0_ ka0_ (by decide) (by decide) hJ93_C_a0_
            refine lv_aload_n hx hb dX14_readName_146 rfl (lv_at hl 5 rfl) ?_
            refine lv_iload hx hb dX14_readName_147 (lv_at hl 1 rfl) ?_
            refine lv_sipush (v := 1200) hx hb dX14_readName_149 (by decide) ?_
            have kb_1200 : bd 1200 1200 (1200 : Int32) := ⟨by decide, by decide⟩
            refine lv_icmp_gt (tgt := 159) hx hb dX14_readName_152 (by decide) (fun c_48 => ?_) (fun c_48 => ?_)
            · have fc_48 := lt_f c_48
              have b_49 : bd 1201 1201 t_ := ltR fc_48 kb_1200 bt_ (by decide)
              refine lv_iconst (v := 0) hx hb dX14_readName_159 (by decide) ?_
              refine lv_iconst (v := 4) hx hb dX14_readName_160 (by decide) ?_
              refine lv_iload_n hx hb dX14_readName_161 rfl (lv_at hl 4 rfl) ?_
              have go_ := g
              refine g_callEv (As := [.int 0, .int 4, .int x_2]) (rest := []) ⟨hx, hb, hml, hown, hts⟩ (r_X14_need_2 l dC dI L kd tys fr_39 H.size g.2.2.2.1 a0_ ma0_ ka0_ 0 kb_0 4 x_2) (cwV 3 hts (gV_ t_2403 t_2405 t_100 t_198 t_2406) rfl rfl rfl (by decide +kernel) ⟨(show 1 + 1 ≤ N + 1 + 24 by omega), (show 8 + (4 + 11) + 22 ≤ 60 * (N + 1) + 700 by omega)⟩) (pre3V g hK ma0_ ka0_ (by decide) (q := (RX14, TX14, 67)) rfl) rfl hl.1 rfl (lv_room (Nat.le_of_ble_eq_true rfl)) dX14_readName_162 (cl_f hck_0) g hK (by decide) (by decide) (fx' := [(14, 17, a0_, .int x_29), (12, 24, q0_, .ref a_28), (14, 10, a0_, .int x_8), (14, 2, a0_, .ref q0_), (14, 16, a0_, .int o_), (14, 25, a0_, .int op_)]) rfl (fun xr_50 fr_50 H locs mxr_50 kxr_50 hp hMr_50 g => ?_) (fun fr_50 H locs hp hMr_50 g => ?_)
              · have hG_51 := isV.frame hMr_50 go_.2.2.2.1 mq0_ kq0_ (by decide) (by decide) hG_44
                have hG_52 := FR.frame hMr_50 go_.2.2.2.1 mq0_ kq0_ (by decide) (by decide) hG_45
                have hG_53 := isN.frame hMr_50 go_.2.2.2.1 ma0_ ka0_ (by decide) (by decide) hG_46
                have hG_54 := cEq.frame hMr_50 go_.2.2.2.1 ma0_ ka0_ (by decide) (by decide) hG_47
                subst hQ
                exact leavesX hempty hlocks (fun t ht hW => g_thrZ g hK mxr_50 kxr_50 ⟨hG_52, (by omega)⟩ ht hW) g.2.2.1.2.2
              · exact hp.elim
            · have fc_48 := nlt_f c_48
              have b_55 : bd 0 1200 t_ := leL fc_48 bt_ kb_1200 (by decide)
              refine lv_iconst (v := 1) hx hb dX14_readName_155 (by decide) ?_
              refine lv_goto (tgt := 160) hx hb dX14_readName_156 (by decide) ?_
              refine lv_iconst (v := 4) hx hb dX14_readName_160 (by decide) ?_
              refine lv_iload_n hx hb dX14_readName_161 rfl (lv_at hl 4 rfl) ?_
              have go_ := g
              refine g_callEv (As := [.int 1, .int 4, .int x_2]) (rest := []) ⟨hx, hb, hml, hown, hts⟩ (r_X14_need_3 l dC dI L kd tys fr_39 H.size g.2.2.2.1 a0_ ma0_ ka0_ 1 kb_1 4 x_2) (cwV 3 hts (gV_ t_2403 t_2405 t_100 t_198 t_2406) rfl rfl rfl (by decide +kernel) ⟨(show 0 + 1 ≤ N + 1 + 24 by omega), (show 8 + (4 + 11) + 0 ≤ 60 * (N + 1) + 700 by omega)⟩) (pre3V g hK ma0_ ka0_ (by decide) (q := (RX14, TX14, 67)) rfl) rfl hl.1 rfl (lv_room (Nat.le_of_ble_eq_true rfl)) dX14_readName_162 (cl_f hck_0) g hK (by decide) (by decide) (fx' := [(14, 17, a0_, .int x_29), (12, 24, q0_, .ref a_28), (14, 10, a0_, .int x_8), (14, 2, a0_, .ref q0_), (14, 16, a0_, .int o_), (14, 25, a0_, .int op_)]) rfl (fun xr_56 fr_56 H locs mxr_56 kxr_56 hp hMr_56 g => ?_) (fun fr_56 H locs hp hMr_56 g => ?_)
              · have hG_57 := isV.frame hMr_56 go_.2.2.2.1 mq0_ kq0_ (by decide) (by decide) hG_44
                have hG_58 := FR.frame hMr_56 go_.2.2.2.1 mq0_ kq0_ (by decide) (by decide) hG_45
                have hG_59 := isN.frame hMr_56 go_.2.2.2.1 ma0_ ka0_ (by decide) (by decide) hG_46
                have hG_60 := cEq.frame hMr_56 go_.2.2.2.1 ma0_ ka0_ (by decide) (by decide) hG_47
                exact hp.elim
              · have hG_61 := isV.frame hMr_56 go_.2.2.2.1 mq0_ kq0_ (by decide) (by decide) hG_44
                have hG_62 := FR.frame hMr_56 go_.2.2.2.1 mq0_ kq0_ (by decide) (by decide) hG_45
                have hG_63 := isN.frame hMr_56 go_.2.2.2.1 ma0_ ka0_ (by decide) (by decide) hG_46
                have hG_64 := cEq.frame hMr_56 go_.2.2.2.1 ma0_ ka0_ (by decide) (by decide) hG_47
                refine lv_iload_n hx hb dX14_readName_165 rfl (lv_at hl 6 rfl) ?_
                refine lv_if_eq (tgt := 185) hx hb dX14_readName_166 (by decide) (fun c_65 => ?_) (fun c_65 => ?_)
                · have fc_65 := eq_f c_65
                  refine lv_aload_n hx hb dX14_readName_185 rfl (lv_at hl 5 rfl) ?_
                  refine g_getk (C := RX14) (T := TX14) (N := 67) hx hb hts (mc_ inX14) hown hK g rfl 2 (by decide) rfl (hts _ (List.mem_cons_of_mem _ t_2148)) (fun _ h9 => h9) 3 rfl dX14_readName_186 ?_
                  refine g_getk (C := RX12) (T := TX12) (N := 60) hx hb hts (mc_ inX12) hown hK g rfl 24 (by decide) rfl (hts _ (List.mem_cons_of_mem _ t_1954)) (fun _ h9 => h9) 1 rfl dX14_readName_189 ?_
                  refine lv_aload_n hx hb dX14_readName_192 rfl (lv_at hl 5 rfl) ?_
                  refine g_getk (C := RX14) (T := TX14) (N := 67) hx hb hts (mc_ inX14) hown hK g rfl 17 (by decide) rfl (hts _ (List.mem_cons_of_mem _ t_2163)) (fun _ h9 => h9) 0 rfl dX14_readName_193 ?_
                  refine lv_dup2_11 hx hb dX14_readName_196 rfl rfl ?_
                  refine g_iald hx hb hK g ma_28 ka_28 (by decide) rfl (in_bd bx_29 (by decide)) dX14_readName_197 (fun x_66 bx_66 cx_66 => ?_)
                  obtain rfl : x_30 = x_66 := el_same cx_30 cx_66 ((arr_eq hMr_56 ma_28 ka_28 (by decide) rfl).trans (arr_eq hMr_39 ma_28 ka_28 (by decide) rfl))
                  refine lv_iconst (v := 1) hx hb dX14_readName_198 (by decide) ?_
                  refine lv_iadd hx hb dX14_readName_199 ?_
                  refine lv_topi (fun y_67 ey_67 => ?_)
                  have ty_67 := add_bd ey_67 b_38 kb_1 (by decide)
                  have b_68 : bd 1 40 y_67 := add_rg ty_67 b_38 kb_1 (by decide)
                  have gp_69 := g
                  have go_ := g
                  refine g_iastX hx hb hK g ma_28 ka_28 (by decide) rfl (in_bd bx_29 (by decide)) (bd_sub b_68 (by decide)) (by decide) dX14_readName_200 (fun f H locs hM_70 u_73 g => ?_)
                  have hG_71 := isN.frame hM_70 go_.2.2.2.1 ma0_ ka0_ (by decide) (by decide) hG_63
                  have hG_72 := cEq.frame hM_70 go_.2.2.2.1 ma0_ ka0_ (by decide) (by decide) hG_64
                  have hV_74 := isV.ui hG_61 gp_69 1 rfl mq0_ kq0_ rfl u_73
                  have hF_75 := FR.arr hG_62 gp_69 1 rfl mq0_ kq0_ rfl rfl u_73.1
                  obtain ⟨V_76, hV_77, hX_78, hw_79, hn_80⟩ : ∃ V1 : PV, isV f q0_ V1 ∧ exN V_ V1 ∧ wfN V1 (V1.n 57).toInt ∧ (V1.n 57).toInt = (V_.n 57).toInt := ⟨_, hV_74, u24_ok hwf⟩
                  have hx_81 := exN.tr exN.rf hX_78
                  have hd_82 := nmd_ex hX_78 hd93
                  refine lv_iload hx hb dX14_readName_201 (lv_at hl 0 rfl) ?_
                  refine lv_if_eq (tgt := 275) hx hb dX14_readName_203 (by decide) (fun c_ => ?_) (fun c_ => absurd (by decide) c_)
                  refine lv_aload_n hx hb dX14_readName_275 rfl (lv_at hl 5 rfl) ?_
                  refine lv_lload hx hb dX14_readName_276 (lv_at hl 3 rfl) ?_
                  refine lv_lload hx hb dX14_readName_278 (lv_at hl 2 rfl) ?_
                  have go_ := g
                  refine g_calli (va_runV (As := [.long x_3, .long x_4]) (rest := []) ⟨hx, hb, hml, hown, hts⟩ (r_X14_named_2 l dC dI L kd tys f H.size g.2.2.2.1 a0_ ma0_ ka0_ x_3 x_4 q0_ mq0_ kq0_ o_ bo_ V_76 N_ hG_71 hV_77 (g.fcts [3, 4] rfl)) (cwV 2 hts (gV_ t_2504 t_2506 t_122 t_198 t_2507) rfl rfl rfl (by decide +kernel) ⟨(show 1 + 1 ≤ N + 1 + 24 by omega), (show 8 + (6 + 11) + 26 ≤ 60 * (N + 1) + 700 by omega)⟩) (pre3V g hK ma0_ ka0_ (by decide) (q := (RX14, TX14, 67)) rfl) rfl rfl hl.1 rfl (lv_room (Nat.le_of_ble_eq_true rfl)) dX14_readName_280 (cl_f hck_0)) g hK (by decide) (by decide) (fx' := [(14, 17, a0_, .int x_29), (12, 24, q0_, .ref a_28), (14, 10, a0_, .int x_8), (14, 2, a0_, .ref q0_), (14, 16, a0_, .int o_), (14, 25, a0_, .int op_)]) rfl (fun r_83 fr_83 H locs hp hMr_83 g => ?_)
                  obtain ⟨hx_84, -⟩ := hp
                  have hG_85 := isN.frame hMr_83 go_.2.2.2.1 ma0_ ka0_ (by decide) (by decide) hG_71
                  have hG_86 := cEq.frame hMr_83 go_.2.2.2.1 ma0_ ka0_ (by decide) (by decide) hG_72
                  have hG_87 := isV.frame hMr_83 go_.2.2.2.1 mq0_ kq0_ (by decide) (by decide) hV_77
                  have hG_88 := FR.frame hMr_83 go_.2.2.2.1 mq0_ kq0_ (by decide) (by decide) hF_75
                  rcases hx_84 with ⟨h_89, hd_90⟩ | ⟨h_89 | h_89 | h_89, hd_90⟩
                  · obtain rfl : r_83 = (-1) := Int32.toInt_inj.mp (h_89.trans (by decide))
                    exact absurd hd_82 hd_90
                  · have b_91 : bd 0 9 r_83 := ⟨h_89.1, h_89.2.1⟩
                    have hv_92 : varOK V_76 r_83 o_.toNatClampNeg := Or.inl h_89
                    refine lv_istore (lv' := [(10, .int r_83), (9, .int 0), (8, .int t_), (6, .long x_4), (4, .long x_3), (3, .int x_2), (0, .ref a0_), (1, .int x1_), (2, .int x2_)]) hx hb dX14_readName_283 hl (by decide) rfl (fun ls hl => ?_)
                    refine lv_aload_n hx hb dX14_readName_285 rfl (lv_at hl 6 rfl) ?_
                    refine lv_iload_n hx hb dX14_readName_286 rfl (lv_at hl 8 rfl) ?_
                    refine lv_if_eq (tgt := 298) hx hb dX14_readName_287 (by decide) (fun c_93 => ?_) (fun c_93 => ?_)
                    · have fc_93 := eq_f c_93
                      have b_94 : bd 0 0 x2_ := eqX fc_93 bx2_ kb_0 (by decide)
                      refine lv_iconst (v := 1) hx hb dX14_readName_298 (by decide) ?_
                      refine lv_goto (tgt := 303) hx hb dX14_readName_299 (by decide) ?_
                      refine lv_iconst (v := 5) hx hb dX14_readName_303 (by decide) ?_
                      refine lv_iload_n hx hb dX14_readName_304 rfl (lv_at hl 5 rfl) ?_
                      have go_ := g
                      refine g_callEv (As := [.int 1, .int 5, .int x_2]) (rest := []) ⟨hx, hb, hml, hown, hts⟩ (r_X14_need_3 l dC dI L kd tys fr_83 H.size g.2.2.2.1 a0_ ma0_ ka0_ 1 kb_1 5 x_2) (cwV 3 hts (gV_ t_2403 t_2405 t_100 t_198 t_2406) rfl rfl rfl (by decide +kernel) ⟨(show 0 + 1 ≤ N + 1 + 24 by omega), (show 8 + (4 + 11) + 0 ≤ 60 * (N + 1) + 700 by omega)⟩) (pre3V g hK ma0_ ka0_ (by decide) (q := (RX14, TX14, 67)) rfl) rfl hl.1 rfl (lv_room (Nat.le_of_ble_eq_true rfl)) dX14_readName_305 (cl_f hck_0) g hK (by decide) (by decide) (fx' := [(14, 17, a0_, .int x_29), (12, 24, q0_, .ref a_28), (14, 10, a0_, .int x_8), (14, 2, a0_, .ref q0_), (14, 16, a0_, .int o_), (14, 25, a0_, .int op_)]) rfl (fun xr_95 fr_95 H locs mxr_95 kxr_95 hp hMr_95 g => ?_) (fun fr_95 H locs hp hMr_95 g => ?_)
                      · have hG_96 := isN.frame hMr_95 go_.2.2.2.1 ma0_ ka0_ (by decide) (by decide) hG_85
                        have hG_97 := cEq.frame hMr_95 go_.2.2.2.1 ma0_ ka0_ (by decide) (by decide) hG_86
                        have hG_98 := isV.frame hMr_95 go_.2.2.2.1 mq0_ kq0_ (by decide) (by decide) hG_87
                        have hG_99 := FR.frame hMr_95 go_.2.2.2.1 mq0_ kq0_ (by decide) (by decide) hG_88
                        exact hp.elim
                      · have hG_100 := isN.frame hMr_95 go_.2.2.2.1 ma0_ ka0_ (by decide) (by decide) hG_85
                        have hG_101 := cEq.frame hMr_95 go_.2.2.2.1 ma0_ ka0_ (by decide) (by decide) hG_86
                        have hG_102 := isV.frame hMr_95 go_.2.2.2.1 mq0_ kq0_ (by decide) (by decide) hG_87
                        have hG_103 := FR.frame hMr_95 go_.2.2.2.1 mq0_ kq0_ (by decide) (by decide) hG_88
                        refine lv_aload_n hx hb dX14_readName_308 rfl (lv_at hl 6 rfl) ?_
                        refine lv_iload hx hb dX14_readName_309 (lv_at hl 0 rfl) ?_
                        refine lv_iload_n hx hb dX14_readName_311 rfl (lv_at hl 5 rfl) ?_
                        refine lv_iload_n hx hb dX14_readName_312 rfl (lv_at hl 7 rfl) ?_
                        have qc__104 : cF fr_95 a0_ = _ := hG_101
                        have b_105 : bd 0 1201 x_8 := ⟨(by have h9_0 := bo_; unfold bd at h9_0; have h9_1 := bop_; unfold bd at h9_1; have h9_2 := b_91; unfold bd at h9_2; have h9_3 := bso_; unfold bd at h9_3; have h9_4 := b_55; unfold bd at h9_4; have h9_5 := b_27; unfold bd at h9_5; have h9_6 := b_94; unfold bd at h9_6; have h9_7 := bx_2; unfold bd at h9_7; have h9_8 := bx_29; unfold bd at h9_8; have h9_9 := b_38; unfold bd at h9_9; have h9_10 := bx_66; unfold bd at h9_10; have h9_11 := h_9; unfold bd at h9_11; have h9_12 := b_68; unfold bd at h9_12; have h8_0 := kb_0; unfold bd at h8_0; have h8_1 := kb_1; unfold bd at h8_1; have h8_2 := kb_1200; unfold bd at h8_2; have h8_3 := kb_40; unfold bd at h8_3; omega), (by have h9_0 := bo_; unfold bd at h9_0; have h9_1 := bop_; unfold bd at h9_1; have h9_2 := b_91; unfold bd at h9_2; have h9_3 := bso_; unfold bd at h9_3; have h9_4 := b_55; unfold bd at h9_4; have h9_5 := b_27; unfold bd at h9_5; have h9_6 := b_94; unfold bd at h9_6; have h9_7 := bx_2; unfold bd at h9_7; have h9_8 := bx_29; unfold bd at h9_8; have h9_9 := b_38; unfold bd at h9_9; have h9_10 := bx_66; unfold bd at h9_10; have h9_11 := h_9; unfold bd at h9_11; have h9_12 := b_68; unfold bd at h9_12; have h8_0 := kb_0; unfold bd at h8_0; have h8_1 := kb_1; unfold bd at h8_1; have h8_2 := kb_1200; unfold bd at h8_2; have h8_3 := kb_40; unfold bd at h8_3; omega)⟩
                        have go_ := g
                        refine g_callZi (As := [.int r_83, .int x_2, .int x1_]) (rest := []) ⟨hx, hb, hml, hown, hts⟩ (ih.2.2.2.2.2.1 l dC dI L kd tys fr_95 H.size g.2.2.2.1 adK adV a0_ ma0_ ka0_ r_83 x_2 x1_ (bd_sub b_27 (by decide)) q0_ mq0_ kq0_ V_76 o_ bo_ op_ bop_ x_8 b_105 hG_102 hw_79 (by rw [hx_81.2.2.1 0 (by decide)]; exact ho) (by omega) hm_ hhm hv_92 (K_ - cl_0) (by omega) (by have h9_0 := bo_; unfold bd at h9_0; have h9_1 := bop_; unfold bd at h9_1; have h9_2 := b_91; unfold bd at h9_2; have h9_3 := bso_; unfold bd at h9_3; have h9_4 := b_55; unfold bd at h9_4; have h9_5 := b_27; unfold bd at h9_5; have h9_6 := b_94; unfold bd at h9_6; have h9_7 := bx_2; unfold bd at h9_7; have h9_8 := bx_29; unfold bd at h9_8; have h9_9 := b_38; unfold bd at h9_9; have h9_10 := bx_66; unfold bd at h9_10; have h9_11 := b_105; unfold bd at h9_11; have h9_12 := b_68; unfold bd at h9_12; have h8_0 := kb_0; unfold bd at h8_0; have h8_1 := kb_1; unfold bd at h8_1; have h8_2 := kb_1200; unfold bd at h8_2; have h8_3 := kb_40; unfold bd at h8_3; omega) (g.fcts [3, 4, 5, 2] rfl)) (cwV 3 hts (gV_ t_2512 t_2514 t_124 t_198 t_2515) rfl rfl rfl (by decide +kernel) ⟨(show N + 24 + 1 ≤ N + 1 + 24 by omega), (show 8 + (8 + 11) + (60 * N + 700) ≤ 60 * (N + 1) + 700 by omega)⟩) (pre3VA g hK hAm ma0_ ka0_ (by decide) (q := (RX14, TX14, 67)) rfl) rfl hl.1 rfl (lv_room (Nat.le_of_ble_eq_true rfl)) dX14_readName_313 (cl_k (K := K_) (k := K_ - cl_0) (show cl_0 + (K_ - cl_0) ≤ K_ by omega)) g hK (by decide) (by decide) (fx' := [(14, 17, a0_, .int x_29), (12, 24, q0_, .ref a_28), (14, 2, a0_, .ref q0_), (14, 16, a0_, .int o_)]) rfl (fun xr_106 fr_106 H locs kr_106 cr_106 ecr_106 mxr_106 kxr_106 hp hMr_106 g => ?_) (fun r_106 fr_106 H locs kr_106 cr_106 ecr_106 hp hMr_106 g => ?_)
                        · have hG_107 := isN.frame hMr_106 go_.2.2.2.1 ma0_ ka0_ (by decide) (by decide) hG_100
                          have hF_108 := FR.call (mds := []) (mas := []) hG_103 go_ mq0_ kq0_ rfl hp.1
                          have hpk := hp.2
                          subst hQ
                          exact leavesX hempty hlocks (fun t ht hW => g_thrZ g hK mxr_106 kxr_106 ⟨hF_108, (by omega)⟩ ht hW) g.2.2.1.2.2
                        · obtain ⟨hx_109, x_110, h_111, hF_112⟩ := hp
                          have hG_113 := isN.frame hMr_106 go_.2.2.2.1 ma0_ ka0_ (by decide) (by decide) hG_100
                          obtain ⟨V_114, E_115, hV_116, hF_117, hE_118, hX_119, hw_120, hv_121, hP_122, hn_123, hk_124, hc_125⟩ := rd_use hx_109 hG_101
                          have hF_126 := FR.call (mds := []) (mas := []) hG_103 go_ mq0_ kq0_ rfl hF_117
                          have mxE_115 : E_115 ≤ 1202 := by have h9 := cF_le g ma0_ ka0_; have h8 : cF _ _ = _ := hE_118; omega
                          have hx_127 := exN.tr hx_81 hX_119
                          have hv_128 := exN.var hX_119 hv_92
                          have hd_129 := nmd_ex hX_119 hd_90
                          have hck_130 : cr_106 ≤ K_ := by omega
                          have b_131 : bd 0 2499 r_106 := ⟨hv_121.1, (by have h9 := hv_121.2.1; omega)⟩
                          have g := g.more hF_112
                          have h9c : cF fr_106 a0_ = _ := hE_118
                          subst hQ
                          exact iretX (v := r_106) hx hb hr (fun t ht hW => g_retZ g hK ⟨_, rfl, ⟨⟨_, hV_116, hF_126, hx_127, hw_120, hv_121, ⟨Or.inl hP_122, fun _ => hP_122⟩, (by omega), (by omega), (by omega)⟩, x_110, h_111, (g.fcts [0, 1] rfl)⟩⟩ ht hW) g.2.2.1.2.2 dX14_readName_316 hlocks
                    · have fc_93 := neq_f c_93
                      have b_132 : bd 1 1 x2_ := neX fc_93 bx2_ kb_0 (by decide)
                      refine lv_iload hx hb dX14_readName_290 (lv_at hl 0 rfl) ?_
                      refine lv_sipush (v := 1000) hx hb dX14_readName_292 (by decide) ?_
                      have kb_1000 : bd 1000 1000 (1000 : Int32) := ⟨by decide, by decide⟩
                      refine lv_icmp_ge (tgt := 302) hx hb dX14_readName_295 (by decide) (fun c_133 => ?_) (fun c_133 => ?_)
                      · have fc_133 := le_f c_133
                        have b_134 : bd 1000 9 (1000 : Int32) := leL fc_133 kb_1000 b_91 (by decide)
                        exact bd_no (eqX rfl b_134 kb_1000 (lo := 1000) (hi := 9) (by decide)) (by decide)
                      · have fc_133 := nle_f c_133
                        refine lv_iconst (v := 1) hx hb dX14_readName_298 (by decide) ?_
                        refine lv_goto (tgt := 303) hx hb dX14_readName_299 (by decide) ?_
                        refine lv_iconst (v := 5) hx hb dX14_readName_303 (by decide) ?_
                        refine lv_iload_n hx hb dX14_readName_304 rfl (lv_at hl 5 rfl) ?_
                        have go_ := g
                        refine g_callEv (As := [.int 1, .int 5, .int x_2]) (rest := []) ⟨hx, hb, hml, hown, hts⟩ (r_X14_need_3 l dC dI L kd tys fr_83 H.size g.2.2.2.1 a0_ ma0_ ka0_ 1 kb_1 5 x_2) (cwV 3 hts (gV_ t_2403 t_2405 t_100 t_198 t_2406) rfl rfl rfl (by decide +kernel) ⟨(show 0 + 1 ≤ N + 1 + 24 by omega), (show 8 + (4 + 11) + 0 ≤ 60 * (N + 1) + 700 by omega)⟩) (pre3V g hK ma0_ ka0_ (by decide) (q := (RX14, TX14, 67)) rfl) rfl hl.1 rfl (lv_room (Nat.le_of_ble_eq_true rfl)) dX14_readName_305 (cl_f hck_0) g hK (by decide) (by decide) (fx' := [(14, 17, a0_, .int x_29), (12, 24, q0_, .ref a_28), (14, 10, a0_, .int x_8), (14, 2, a0_, .ref q0_), (14, 16, a0_, .int o_), (14, 25, a0_, .int op_)]) rfl (fun xr_135 fr_135 H locs mxr_135 kxr_135 hp hMr_135 g => ?_) (fun fr_135 H locs hp hMr_135 g => ?_)
                        · have hG_136 := isN.frame hMr_135 go_.2.2.2.1 ma0_ ka0_ (by decide) (by decide) hG_85
                          have hG_137 := cEq.frame hMr_135 go_.2.2.2.1 ma0_ ka0_ (by decide) (by decide) hG_86
                          have hG_138 := isV.frame hMr_135 go_.2.2.2.1 mq0_ kq0_ (by decide) (by decide) hG_87
                          have hG_139 := FR.frame hMr_135 go_.2.2.2.1 mq0_ kq0_ (by decide) (by decide) hG_88
                          exact hp.elim
                        · have hG_140 := isN.frame hMr_135 go_.2.2.2.1 ma0_ ka0_ (by decide) (by decide) hG_85
                          have hG_141 := cEq.frame hMr_135 go_.2.2.2.1 ma0_ ka0_ (by decide) (by decide) hG_86
                          have hG_142 := isV.frame hMr_135 go_.2.2.2.1 mq0_ kq0_ (by decide) (by decide) hG_87
                          have hG_143 := FR.frame hMr_135 go_.2.2.2.1 mq0_ kq0_ (by decide) (by decide) hG_88
                          refine lv_aload_n hx hb dX14_readName_308 rfl (lv_at hl 6 rfl) ?_
                          refine lv_iload hx hb dX14_readName_309 (lv_at hl 0 rfl) ?_
                          refine lv_iload_n hx hb dX14_readName_311 rfl (lv_at hl 5 rfl) ?_
                          refine lv_iload_n hx hb dX14_readName_312 rfl (lv_at hl 7 rfl) ?_
                          have qc__144 : cF fr_135 a0_ = _ := hG_141
                          have b_145 : bd 0 1201 x_8 := ⟨(by have h9_0 := bo_; unfold bd at h9_0; have h9_1 := bop_; unfold bd at h9_1; have h9_2 := b_91; unfold bd at h9_2; have h9_3 := bso_; unfold bd at h9_3; have h9_4 := b_55; unfold bd at h9_4; have h9_5 := b_27; unfold bd at h9_5; have h9_6 := b_132; unfold bd at h9_6; have h9_7 := bx_2; unfold bd at h9_7; have h9_8 := bx_29; unfold bd at h9_8; have h9_9 := b_38; unfold bd at h9_9; have h9_10 := bx_66; unfold bd at h9_10; have h9_11 := h_9; unfold bd at h9_11; have h9_12 := b_68; unfold bd at h9_12; have h8_0 := kb_0; unfold bd at h8_0; have h8_1 := kb_1; unfold bd at h8_1; have h8_2 := kb_1000; unfold bd at h8_2; have h8_3 := kb_1200; unfold bd at h8_3; have h8_4 := kb_40; unfold bd at h8_4; omega), (by have h9_0 := bo_; unfold bd at h9_0; have h9_1 := bop_; unfold bd at h9_1; have h9_2 := b_91; unfold bd at h9_2; have h9_3 := bso_; unfold bd at h9_3; have h9_4 := b_55; unfold bd at h9_4; have h9_5 := b_27; unfold bd at h9_5; have h9_6 := b_132; unfold bd at h9_6; have h9_7 := bx_2; unfold bd at h9_7; have h9_8 := bx_29; unfold bd at h9_8; have h9_9 := b_38; unfold bd at h9_9; have h9_10 := bx_66; unfold bd at h9_10; have h9_11 := h_9; unfold bd at h9_11; have h9_12 := b_68; unfold bd at h9_12; have h8_0 := kb_0; unfold bd at h8_0; have h8_1 := kb_1; unfold bd at h8_1; have h8_2 := kb_1000; unfold bd at h8_2; have h8_3 := kb_1200; unfold bd at h8_3; have h8_4 := kb_40; unfold bd at h8_4; omega)⟩
                          have go_ := g
                          refine g_callZi (As := [.int r_83, .int x_2, .int x1_]) (rest := []) ⟨hx, hb, hml, hown, hts⟩ (ih.2.2.2.2.2.1 l dC dI L kd tys fr_135 H.size g.2.2.2.1 adK adV a0_ ma0_ ka0_ r_83 x_2 x1_ (bd_sub b_27 (by decide)) q0_ mq0_ kq0_ V_76 o_ bo_ op_ bop_ x_8 b_145 hG_142 hw_79 (by rw [hx_81.2.2.1 0 (by decide)]; exact ho) (by omega) hm_ hhm hv_92 (K_ - cl_0) (by omega) (by have h9_0 := bo_; unfold bd at h9_0; have h9_1 := bop_; unfold bd at h9_1; have h9_2 := b_91; unfold bd at h9_2; have h9_3 := bso_; unfold bd at h9_3; have h9_4 := b_55; unfold bd at h9_4; have h9_5 := b_27; unfold bd at h9_5; have h9_6 := b_132; unfold bd at h9_6; have h9_7 := bx_2; unfold bd at h9_7; have h9_8 := bx_29; unfold bd at h9_8; have h9_9 := b_38; unfold bd at h9_9; have h9_10 := bx_66; unfold bd at h9_10; have h9_11 := b_145; unfold bd at h9_11; have h9_12 := b_68; unfold bd at h9_12; have h8_0 := kb_0; unfold bd at h8_0; have h8_1 := kb_1; unfold bd at h8_1; have h8_2 := kb_1000; unfold bd at h8_2; have h8_3 := kb_1200; unfold bd at h8_3; have h8_4 := kb_40; unfold bd at h8_4; omega) (g.fcts [3, 4, 5, 2] rfl)) (cwV 3 hts (gV_ t_2512 t_2514 t_124 t_198 t_2515) rfl rfl rfl (by decide +kernel) ⟨(show N + 24 + 1 ≤ N + 1 + 24 by omega), (show 8 + (8 + 11) + (60 * N + 700) ≤ 60 * (N + 1) + 700 by omega)⟩) (pre3VA g hK hAm ma0_ ka0_ (by decide) (q := (RX14, TX14, 67)) rfl) rfl hl.1 rfl (lv_room (Nat.le_of_ble_eq_true rfl)) dX14_readName_313 (cl_k (K := K_) (k := K_ - cl_0) (show cl_0 + (K_ - cl_0) ≤ K_ by omega)) g hK (by decide) (by decide) (fx' := [(14, 17, a0_, .int x_29), (12, 24, q0_, .ref a_28), (14, 2, a0_, .ref q0_), (14, 16, a0_, .int o_)]) rfl (fun xr_146 fr_146 H locs kr_146 cr_146 ecr_146 mxr_146 kxr_146 hp hMr_146 g => ?_) (fun r_146 fr_146 H locs kr_146 cr_146 ecr_146 hp hMr_146 g => ?_)
                          · have hG_147 := isN.frame hMr_146 go_.2.2.2.1 ma0_ ka0_ (by decide) (by decide) hG_140
                            have hF_148 := FR.call (mds := []) (mas := []) hG_143 go_ mq0_ kq0_ rfl hp.1
                            have hpk := hp.2
                            subst hQ
                            exact leavesX hempty hlocks (fun t ht hW => g_thrZ g hK mxr_146 kxr_146 ⟨hF_148, (by omega)⟩ ht hW) g.2.2.1.2.2
                          · obtain ⟨hx_149, x_150, h_151, hF_152⟩ := hp
                            have hG_153 := isN.frame hMr_146 go_.2.2.2.1 ma0_ ka0_ (by decide) (by decide) hG_140
                            obtain ⟨V_154, E_155, hV_156, hF_157, hE_158, hX_159, hw_160, hv_161, hP_162, hn_163, hk_164, hc_165⟩ := rd_use hx_149 hG_141
                            have hF_166 := FR.call (mds := []) (mas := []) hG_143 go_ mq0_ kq0_ rfl hF_157
                            have mxE_155 : E_155 ≤ 1202 := by have h9 := cF_le g ma0_ ka0_; have h8 : cF _ _ = _ := hE_158; omega
                            have hx_167 := exN.tr hx_81 hX_159
                            have hv_168 := exN.var hX_159 hv_92
                            have hd_169 := nmd_ex hX_159 hd_90
                            have hck_170 : cr_146 ≤ K_ := by omega
                            have b_171 : bd 0 2499 r_146 := ⟨hv_161.1, (by have h9 := hv_161.2.1; omega)⟩
                            have g := g.more hF_152
                            have h9c : cF fr_146 a0_ = _ := hE_158
                            subst hQ
                            exact iretX (v := r_146) hx hb hr (fun t ht hW => g_retZ g hK ⟨_, rfl, ⟨⟨_, hV_156, hF_166, hx_167, hw_160, hv_161, ⟨Or.inl hP_162, fun _ => hP_162⟩, (by omega), (by omega), (by omega)⟩, x_150, h_151, (g.fcts [0, 1] rfl)⟩⟩ ht hW) g.2.2.1.2.2 dX14_readName_316 hlocks
                  · have b_172 : bd 1000 1002 r_83 := ⟨h_89.1, h_89.2⟩
                    have hv_173 : varOK V_76 r_83 o_.toNatClampNeg := Or.inr (Or.inl h_89)
                    refine lv_istore (lv' := [(10, .int r_83), (9, .int 0), (8, .int t_), (6, .long x_4), (4, .long x_3), (3, .int x_2), (0, .ref a0_), (1, .int x1_), (2, .int x2_)]) hx hb dX14_readName_283 hl (by decide) rfl (fun ls hl => ?_)
                    refine lv_aload_n hx hb dX14_readName_285 rfl (lv_at hl 6 rfl) ?_
                    refine lv_iload_n hx hb dX14_readName_286 rfl (lv_at hl 8 rfl) ?_
                    refine lv_if_eq (tgt := 298) hx hb dX14_readName_287 (by decide) (fun c_174 => ?_) (fun c_174 => ?_)
                    · have fc_174 := eq_f c_174
                      have b_175 : bd 0 0 x2_ := eqX fc_174 bx2_ kb_0 (by decide)
                      refine lv_iconst (v := 1) hx hb dX14_readName_298 (by decide) ?_
                      refine lv_goto (tgt := 303) hx hb dX14_readName_299 (by decide) ?_
                      refine lv_iconst (v := 5) hx hb dX14_readName_303 (by decide) ?_
                      refine lv_iload_n hx hb dX14_readName_304 rfl (lv_at hl 5 rfl) ?_
                      have go_ := g
                      refine g_callEv (As := [.int 1, .int 5, .int x_2]) (rest := []) ⟨hx, hb, hml, hown, hts⟩ (r_X14_need_3 l dC dI L kd tys fr_83 H.size g.2.2.2.1 a0_ ma0_ ka0_ 1 kb_1 5 x_2) (cwV 3 hts (gV_ t_2403 t_2405 t_100 t_198 t_2406) rfl rfl rfl (by decide +kernel) ⟨(show 0 + 1 ≤ N + 1 + 24 by omega), (show 8 + (4 + 11) + 0 ≤ 60 * (N + 1) + 700 by omega)⟩) (pre3V g hK ma0_ ka0_ (by decide) (q := (RX14, TX14, 67)) rfl) rfl hl.1 rfl (lv_room (Nat.le_of_ble_eq_true rfl)) dX14_readName_305 (cl_f hck_0) g hK (by decide) (by decide) (fx' := [(14, 17, a0_, .int x_29), (12, 24, q0_, .ref a_28), (14, 10, a0_, .int x_8), (14, 2, a0_, .ref q0_), (14, 16, a0_, .int o_), (14, 25, a0_, .int op_)]) rfl (fun xr_176 fr_176 H locs mxr_176 kxr_176 hp hMr_176 g => ?_) (fun fr_176 H locs hp hMr_176 g => ?_)
                      · have hG_177 := isN.frame hMr_176 go_.2.2.2.1 ma0_ ka0_ (by decide) (by decide) hG_85
                        have hG_178 := cEq.frame hMr_176 go_.2.2.2.1 ma0_ ka0_ (by decide) (by decide) hG_86
                        have hG_179 := isV.frame hMr_176 go_.2.2.2.1 mq0_ kq0_ (by decide) (by decide) hG_87
                        have hG_180 := FR.frame hMr_176 go_.2.2.2.1 mq0_ kq0_ (by decide) (by decide) hG_88
                        exact hp.elim
                      · have hG_181 := isN.frame hMr_176 go_.2.2.2.1 ma0_ ka0_ (by decide) (by decide) hG_85
                        have hG_182 := cEq.frame hMr_176 go_.2.2.2.1 ma0_ ka0_ (by decide) (by decide) hG_86
                        have hG_183 := isV.frame hMr_176 go_.2.2.2.1 mq0_ kq0_ (by decide) (by decide) hG_87
                        have hG_184 := FR.frame hMr_176 go_.2.2.2.1 mq0_ kq0_ (by decide) (by decide) hG_88
                        refine lv_aload_n hx hb dX14_readName_308 rfl (lv_at hl 6 rfl) ?_
                        refine lv_iload hx hb dX14_readName_309 (lv_at hl 0 rfl) ?_
                        refine lv_iload_n hx hb dX14_readName_311 rfl (lv_at hl 5 rfl) ?_
                        refine lv_iload_n hx hb dX14_readName_312 rfl (lv_at hl 7 rfl) ?_
                        have qc__185 : cF fr_176 a0_ = _ := hG_182
                        have b_186 : bd 0 1201 x_8 := ⟨(by have h9_0 := bo_; unfold bd at h9_0; have h9_1 := bop_; unfold bd at h9_1; have h9_2 := b_172; unfold bd at h9_2; have h9_3 := bso_; unfold bd at h9_3; have h9_4 := b_55; unfold bd at h9_4; have h9_5 := b_27; unfold bd at h9_5; have h9_6 := b_175; unfold bd at h9_6; have h9_7 := bx_2; unfold bd at h9_7; have h9_8 := bx_29; unfold bd at h9_8; have h9_9 := b_38; unfold bd at h9_9; have h9_10 := bx_66; unfold bd at h9_10; have h9_11 := h_9; unfold bd at h9_11; have h9_12 := b_68; unfold bd at h9_12; have h8_0 := kb_0; unfold bd at h8_0; have h8_1 := kb_1; unfold bd at h8_1; have h8_2 := kb_1200; unfold bd at h8_2; have h8_3 := kb_40; unfold bd at h8_3; omega), (by have h9_0 := bo_; unfold bd at h9_0; have h9_1 := bop_; unfold bd at h9_1; have h9_2 := b_172; unfold bd at h9_2; have h9_3 := bso_; unfold bd at h9_3; have h9_4 := b_55; unfold bd at h9_4; have h9_5 := b_27; unfold bd at h9_5; have h9_6 := b_175; unfold bd at h9_6; have h9_7 := bx_2; unfold bd at h9_7; have h9_8 := bx_29; unfold bd at h9_8; have h9_9 := b_38; unfold bd at h9_9; have h9_10 := bx_66; unfold bd at h9_10; have h9_11 := h_9; unfold bd at h9_11; have h9_12 := b_68; unfold bd at h9_12; have h8_0 := kb_0; unfold bd at h8_0; have h8_1 := kb_1; unfold bd at h8_1; have h8_2 := kb_1200; unfold bd at h8_2; have h8_3 := kb_40; unfold bd at h8_3; omega)⟩
                        have go_ := g
                        refine g_callZi (As := [.int r_83, .int x_2, .int x1_]) (rest := []) ⟨hx, hb, hml, hown, hts⟩ (ih.2.2.2.2.2.1 l dC dI L kd tys fr_176 H.size g.2.2.2.1 adK adV a0_ ma0_ ka0_ r_83 x_2 x1_ (bd_sub b_27 (by decide)) q0_ mq0_ kq0_ V_76 o_ bo_ op_ bop_ x_8 b_186 hG_183 hw_79 (by rw [hx_81.2.2.1 0 (by decide)]; exact ho) (by omega) hm_ hhm hv_173 (K_ - cl_0) (by omega) (by have h9_0 := bo_; unfold bd at h9_0; have h9_1 := bop_; unfold bd at h9_1; have h9_2 := b_172; unfold bd at h9_2; have h9_3 := bso_; unfold bd at h9_3; have h9_4 := b_55; unfold bd at h9_4; have h9_5 := b_27; unfold bd at h9_5; have h9_6 := b_175; unfold bd at h9_6; have h9_7 := bx_2; unfold bd at h9_7; have h9_8 := bx_29; unfold bd at h9_8; have h9_9 := b_38; unfold bd at h9_9; have h9_10 := bx_66; unfold bd at h9_10; have h9_11 := b_186; unfold bd at h9_11; have h9_12 := b_68; unfold bd at h9_12; have h8_0 := kb_0; unfold bd at h8_0; have h8_1 := kb_1; unfold bd at h8_1; have h8_2 := kb_1200; unfold bd at h8_2; have h8_3 := kb_40; unfold bd at h8_3; omega) (g.fcts [3, 4, 5, 2] rfl)) (cwV 3 hts (gV_ t_2512 t_2514 t_124 t_198 t_2515) rfl rfl rfl (by decide +kernel) ⟨(show N + 24 + 1 ≤ N + 1 + 24 by omega), (show 8 + (8 + 11) + (60 * N + 700) ≤ 60 * (N + 1) + 700 by omega)⟩) (pre3VA g hK hAm ma0_ ka0_ (by decide) (q := (RX14, TX14, 67)) rfl) rfl hl.1 rfl (lv_room (Nat.le_of_ble_eq_true rfl)) dX14_readName_313 (cl_k (K := K_) (k := K_ - cl_0) (show cl_0 + (K_ - cl_0) ≤ K_ by omega)) g hK (by decide) (by decide) (fx' := [(14, 17, a0_, .int x_29), (12, 24, q0_, .ref a_28), (14, 2, a0_, .ref q0_), (14, 16, a0_, .int o_)]) rfl (fun xr_187 fr_187 H locs kr_187 cr_187 ecr_187 mxr_187 kxr_187 hp hMr_187 g => ?_) (fun r_187 fr_187 H locs kr_187 cr_187 ecr_187 hp hMr_187 g => ?_)
                        · have hG_188 := isN.frame hMr_187 go_.2.2.2.1 ma0_ ka0_ (by decide) (by decide) hG_181
                          have hF_189 := FR.call (mds := []) (mas := []) hG_184 go_ mq0_ kq0_ rfl hp.1
                          have hpk := hp.2
                          subst hQ
                          exact leavesX hempty hlocks (fun t ht hW => g_thrZ g hK mxr_187 kxr_187 ⟨hF_189, (by omega)⟩ ht hW) g.2.2.1.2.2
                        · obtain ⟨hx_190, x_191, h_192, hF_193⟩ := hp
                          have hG_194 := isN.frame hMr_187 go_.2.2.2.1 ma0_ ka0_ (by decide) (by decide) hG_181
                          obtain ⟨V_195, E_196, hV_197, hF_198, hE_199, hX_200, hw_201, hv_202, hP_203, hn_204, hk_205, hc_206⟩ := rd_use hx_190 hG_182
                          have hF_207 := FR.call (mds := []) (mas := []) hG_184 go_ mq0_ kq0_ rfl hF_198
                          have mxE_196 : E_196 ≤ 1202 := by have h9 := cF_le g ma0_ ka0_; have h8 : cF _ _ = _ := hE_199; omega
                          have hx_208 := exN.tr hx_81 hX_200
                          have hv_209 := exN.var hX_200 hv_173
                          have hd_210 := nmd_ex hX_200 hd_90
                          have hck_211 : cr_187 ≤ K_ := by omega
                          have b_212 : bd 0 2499 r_187 := ⟨hv_202.1, (by have h9 := hv_202.2.1; omega)⟩
                          have g := g.more hF_193
                          have h9c : cF fr_187 a0_ = _ := hE_199
                          subst hQ
                          exact iretX (v := r_187) hx hb hr (fun t ht hW => g_retZ g hK ⟨_, rfl, ⟨⟨_, hV_197, hF_207, hx_208, hw_201, hv_202, ⟨Or.inl hP_203, fun _ => hP_203⟩, (by omega), (by omega), (by omega)⟩, x_191, h_192, (g.fcts [0, 1] rfl)⟩⟩ ht hW) g.2.2.1.2.2 dX14_readName_316 hlocks
                    · have fc_174 := neq_f c_174
                      have b_213 : bd 1 1 x2_ := neX fc_174 bx2_ kb_0 (by decide)
                      refine lv_iload hx hb dX14_readName_290 (lv_at hl 0 rfl) ?_
                      refine lv_sipush (v := 1000) hx hb dX14_readName_292 (by decide) ?_
                      have kb_1000 : bd 1000 1000 (1000 : Int32) := ⟨by decide, by decide⟩
                      refine lv_icmp_ge (tgt := 302) hx hb dX14_readName_295 (by decide) (fun c_214 => ?_) (fun c_214 => ?_)
                      · have fc_214 := le_f c_214
                        refine lv_iconst (v := 0) hx hb dX14_readName_302 (by decide) ?_
                        refine lv_iconst (v := 5) hx hb dX14_readName_303 (by decide) ?_
                        refine lv_iload_n hx hb dX14_readName_304 rfl (lv_at hl 5 rfl) ?_
                        have go_ := g
                        refine g_callEv (As := [.int 0, .int 5, .int x_2]) (rest := []) ⟨hx, hb, hml, hown, hts⟩ (r_X14_need_2 l dC dI L kd tys fr_83 H.size g.2.2.2.1 a0_ ma0_ ka0_ 0 kb_0 5 x_2) (cwV 3 hts (gV_ t_2403 t_2405 t_100 t_198 t_2406) rfl rfl rfl (by decide +kernel) ⟨(show 1 + 1 ≤ N + 1 + 24 by omega), (show 8 + (4 + 11) + 22 ≤ 60 * (N + 1) + 700 by omega)⟩) (pre3V g hK ma0_ ka0_ (by decide) (q := (RX14, TX14, 67)) rfl) rfl hl.1 rfl (lv_room (Nat.le_of_ble_eq_true rfl)) dX14_readName_305 (cl_f hck_0) g hK (by decide) (by decide) (fx' := [(14, 17, a0_, .int x_29), (12, 24, q0_, .ref a_28), (14, 10, a0_, .int x_8), (14, 2, a0_, .ref q0_), (14, 16, a0_, .int o_), (14, 25, a0_, .int op_)]) rfl (fun xr_215 fr_215 H locs mxr_215 kxr_215 hp hMr_215 g => ?_) (fun fr_215 H locs hp hMr_215 g => ?_)
                        · have hG_216 := isN.frame hMr_215 go_.2.2.2.1 ma0_ ka0_ (by decide) (by decide) hG_85
                          have hG_217 := cEq.frame hMr_215 go_.2.2.2.1 ma0_ ka0_ (by decide) (by decide) hG_86
                          have hG_218 := isV.frame hMr_215 go_.2.2.2.1 mq0_ kq0_ (by decide) (by decide) hG_87
                          have hG_219 := FR.frame hMr_215 go_.2.2.2.1 mq0_ kq0_ (by decide) (by decide) hG_88
                          subst hQ
                          exact leavesX hempty hlocks (fun t ht hW => g_thrZ g hK mxr_215 kxr_215 ⟨hG_219, (by omega)⟩ ht hW) g.2.2.1.2.2
                        · exact hp.elim
                      · have fc_214 := nle_f c_214
                        have b_220 : bd 1000 999 r_83 := ltL fc_214 b_172 kb_1000 (by decide)
                        exact bd_no b_220 (by decide)
                  · have b_221 : bd 2000 2007 r_83 := ⟨h_89.1, h_89.2⟩
                    have hv_222 : varOK V_76 r_83 o_.toNatClampNeg := Or.inr (Or.inr h_89)
                    refine lv_istore (lv' := [(10, .int r_83), (9, .int 0), (8, .int t_), (6, .long x_4), (4, .long x_3), (3, .int x_2), (0, .ref a0_), (1, .int x1_), (2, .int x2_)]) hx hb dX14_readName_283 hl (by decide) rfl (fun ls hl => ?_)
                    refine lv_aload_n hx hb dX14_readName_285 rfl (lv_at hl 6 rfl) ?_
                    refine lv_iload_n hx hb dX14_readName_286 rfl (lv_at hl 8 rfl) ?_
                    refine lv_if_eq (tgt := 298) hx hb dX14_readName_287 (by decide) (fun c_223 => ?_) (fun c_223 => ?_)
                    · have fc_223 := eq_f c_223
                      have b_224 : bd 0 0 x2_ := eqX fc_223 bx2_ kb_0 (by decide)
                      refine lv_iconst (v := 1) hx hb dX14_readName_298 (by decide) ?_
                      refine lv_goto (tgt := 303) hx hb dX14_readName_299 (by decide) ?_
                      refine lv_iconst (v := 5) hx hb dX14_readName_303 (by decide) ?_
                      refine lv_iload_n hx hb dX14_readName_304 rfl (lv_at hl 5 rfl) ?_
                      have go_ := g
                      refine g_callEv (As := [.int 1, .int 5, .int x_2]) (rest := []) ⟨hx, hb, hml, hown, hts⟩ (r_X14_need_3 l dC dI L kd tys fr_83 H.size g.2.2.2.1 a0_ ma0_ ka0_ 1 kb_1 5 x_2) (cwV 3 hts (gV_ t_2403 t_2405 t_100 t_198 t_2406) rfl rfl rfl (by decide +kernel) ⟨(show 0 + 1 ≤ N + 1 + 24 by omega), (show 8 + (4 + 11) + 0 ≤ 60 * (N + 1) + 700 by omega)⟩) (pre3V g hK ma0_ ka0_ (by decide) (q := (RX14, TX14, 67)) rfl) rfl hl.1 rfl (lv_room (Nat.le_of_ble_eq_true rfl)) dX14_readName_305 (cl_f hck_0) g hK (by decide) (by decide) (fx' := [(14, 17, a0_, .int x_29), (12, 24, q0_, .ref a_28), (14, 10, a0_, .int x_8), (14, 2, a0_, .ref q0_), (14, 16, a0_, .int o_), (14, 25, a0_, .int op_)]) rfl (fun xr_225 fr_225 H locs mxr_225 kxr_225 hp hMr_225 g => ?_) (fun fr_225 H locs hp hMr_225 g => ?_)
                      · have hG_226 := isN.frame hMr_225 go_.2.2.2.1 ma0_ ka0_ (by decide) (by decide) hG_85
                        have hG_227 := cEq.frame hMr_225 go_.2.2.2.1 ma0_ ka0_ (by decide) (by decide) hG_86
                        have hG_228 := isV.frame hMr_225 go_.2.2.2.1 mq0_ kq0_ (by decide) (by decide) hG_87
                        have hG_229 := FR.frame hMr_225 go_.2.2.2.1 mq0_ kq0_ (by decide) (by decide) hG_88
                        exact hp.elim
                      · have hG_230 := isN.frame hMr_225 go_.2.2.2.1 ma0_ ka0_ (by decide) (by decide) hG_85
                        have hG_231 := cEq.frame hMr_225 go_.2.2.2.1 ma0_ ka0_ (by decide) (by decide) hG_86
                        have hG_232 := isV.frame hMr_225 go_.2.2.2.1 mq0_ kq0_ (by decide) (by decide) hG_87
                        have hG_233 := FR.frame hMr_225 go_.2.2.2.1 mq0_ kq0_ (by decide) (by decide) hG_88
                        refine lv_aload_n hx hb dX14_readName_308 rfl (lv_at hl 6 rfl) ?_
                        refine lv_iload hx hb dX14_readName_309 (lv_at hl 0 rfl) ?_
                        refine lv_iload_n hx hb dX14_readName_311 rfl (lv_at hl 5 rfl) ?_
                        refine lv_iload_n hx hb dX14_readName_312 rfl (lv_at hl 7 rfl) ?_
                        have qc__234 : cF fr_225 a0_ = _ := hG_231
                        have b_235 : bd 0 1201 x_8 := ⟨(by have h9_0 := bo_; unfold bd at h9_0; have h9_1 := bop_; unfold bd at h9_1; have h9_2 := b_221; unfold bd at h9_2; have h9_3 := bso_; unfold bd at h9_3; have h9_4 := b_55; unfold bd at h9_4; have h9_5 := b_27; unfold bd at h9_5; have h9_6 := b_224; unfold bd at h9_6; have h9_7 := bx_2; unfold bd at h9_7; have h9_8 := bx_29; unfold bd at h9_8; have h9_9 := b_38; unfold bd at h9_9; have h9_10 := bx_66; unfold bd at h9_10; have h9_11 := h_9; unfold bd at h9_11; have h9_12 := b_68; unfold bd at h9_12; have h8_0 := kb_0; unfold bd at h8_0; have h8_1 := kb_1; unfold bd at h8_1; have h8_2 := kb_1200; unfold bd at h8_2; have h8_3 := kb_40; unfold bd at h8_3; omega), (by have h9_0 := bo_; unfold bd at h9_0; have h9_1 := bop_; unfold bd at h9_1; have h9_2 := b_221; unfold bd at h9_2; have h9_3 := bso_; unfold bd at h9_3; have h9_4 := b_55; unfold bd at h9_4; have h9_5 := b_27; unfold bd at h9_5; have h9_6 := b_224; unfold bd at h9_6; have h9_7 := bx_2; unfold bd at h9_7; have h9_8 := bx_29; unfold bd at h9_8; have h9_9 := b_38; unfold bd at h9_9; have h9_10 := bx_66; unfold bd at h9_10; have h9_11 := h_9; unfold bd at h9_11; have h9_12 := b_68; unfold bd at h9_12; have h8_0 := kb_0; unfold bd at h8_0; have h8_1 := kb_1; unfold bd at h8_1; have h8_2 := kb_1200; unfold bd at h8_2; have h8_3 := kb_40; unfold bd at h8_3; omega)⟩
                        have go_ := g
                        refine g_callZi (As := [.int r_83, .int x_2, .int x1_]) (rest := []) ⟨hx, hb, hml, hown, hts⟩ (ih.2.2.2.2.2.1 l dC dI L kd tys fr_225 H.size g.2.2.2.1 adK adV a0_ ma0_ ka0_ r_83 x_2 x1_ (bd_sub b_27 (by decide)) q0_ mq0_ kq0_ V_76 o_ bo_ op_ bop_ x_8 b_235 hG_232 hw_79 (by rw [hx_81.2.2.1 0 (by decide)]; exact ho) (by omega) hm_ hhm hv_222 (K_ - cl_0) (by omega) (by have h9_0 := bo_; unfold bd at h9_0; have h9_1 := bop_; unfold bd at h9_1; have h9_2 := b_221; unfold bd at h9_2; have h9_3 := bso_; unfold bd at h9_3; have h9_4 := b_55; unfold bd at h9_4; have h9_5 := b_27; unfold bd at h9_5; have h9_6 := b_224; unfold bd at h9_6; have h9_7 := bx_2; unfold bd at h9_7; have h9_8 := bx_29; unfold bd at h9_8; have h9_9 := b_38; unfold bd at h9_9; have h9_10 := bx_66; unfold bd at h9_10; have h9_11 := b_235; unfold bd at h9_11; have h9_12 := b_68; unfold bd at h9_12; have h8_0 := kb_0; unfold bd at h8_0; have h8_1 := kb_1; unfold bd at h8_1; have h8_2 := kb_1200; unfold bd at h8_2; have h8_3 := kb_40; unfold bd at h8_3; omega) (g.fcts [3, 4, 5, 2] rfl)) (cwV 3 hts (gV_ t_2512 t_2514 t_124 t_198 t_2515) rfl rfl rfl (by decide +kernel) ⟨(show N + 24 + 1 ≤ N + 1 + 24 by omega), (show 8 + (8 + 11) + (60 * N + 700) ≤ 60 * (N + 1) + 700 by omega)⟩) (pre3VA g hK hAm ma0_ ka0_ (by decide) (q := (RX14, TX14, 67)) rfl) rfl hl.1 rfl (lv_room (Nat.le_of_ble_eq_true rfl)) dX14_readName_313 (cl_k (K := K_) (k := K_ - cl_0) (show cl_0 + (K_ - cl_0) ≤ K_ by omega)) g hK (by decide) (by decide) (fx' := [(14, 17, a0_, .int x_29), (12, 24, q0_, .ref a_28), (14, 2, a0_, .ref q0_), (14, 16, a0_, .int o_)]) rfl (fun xr_236 fr_236 H locs kr_236 cr_236 ecr_236 mxr_236 kxr_236 hp hMr_236 g => ?_) (fun r_236 fr_236 H locs kr_236 cr_236 ecr_236 hp hMr_236 g => ?_)
                        · have hG_237 := isN.frame hMr_236 go_.2.2.2.1 ma0_ ka0_ (by decide) (by decide) hG_230
                          have hF_238 := FR.call (mds := []) (mas := []) hG_233 go_ mq0_ kq0_ rfl hp.1
                          have hpk := hp.2
                          subst hQ
                          exact leavesX hempty hlocks (fun t ht hW => g_thrZ g hK mxr_236 kxr_236 ⟨hF_238, (by omega)⟩ ht hW) g.2.2.1.2.2
                        · obtain ⟨hx_239, x_240, h_241, hF_242⟩ := hp
                          have hG_243 := isN.frame hMr_236 go_.2.2.2.1 ma0_ ka0_ (by decide) (by decide) hG_230
                          obtain ⟨V_244, E_245, hV_246, hF_247, hE_248, hX_249, hw_250, hv_251, hP_252, hn_253, hk_254, hc_255⟩ := rd_use hx_239 hG_231
                          have hF_256 := FR.call (mds := []) (mas := []) hG_233 go_ mq0_ kq0_ rfl hF_247
                          have mxE_245 : E_245 ≤ 1202 := by have h9 := cF_le g ma0_ ka0_; have h8 : cF _ _ = _ := hE_248; omega
                          have hx_257 := exN.tr hx_81 hX_249
                          have hv_258 := exN.var hX_249 hv_222
                          have hd_259 := nmd_ex hX_249 hd_90
                          have hck_260 : cr_236 ≤ K_ := by omega
                          have b_261 : bd 0 2499 r_236 := ⟨hv_251.1, (by have h9 := hv_251.2.1; omega)⟩
                          have g := g.more hF_242
                          have h9c : cF fr_236 a0_ = _ := hE_248
                          subst hQ
                          exact iretX (v := r_236) hx hb hr (fun t ht hW => g_retZ g hK ⟨_, rfl, ⟨⟨_, hV_246, hF_256, hx_257, hw_250, hv_251, ⟨Or.inl hP_252, fun _ => hP_252⟩, (by omega), (by omega), (by omega)⟩, x_240, h_241, (g.fcts [0, 1] rfl)⟩⟩ ht hW) g.2.2.1.2.2 dX14_readName_316 hlocks
                    · have fc_223 := neq_f c_223
                      have b_262 : bd 1 1 x2_ := neX fc_223 bx2_ kb_0 (by decide)
                      refine lv_iload hx hb dX14_readName_290 (lv_at hl 0 rfl) ?_
                      refine lv_sipush (v := 1000) hx hb dX14_readName_292 (by decide) ?_
                      have kb_1000 : bd 1000 1000 (1000 : Int32) := ⟨by decide, by decide⟩
                      refine lv_icmp_ge (tgt := 302) hx hb dX14_readName_295 (by decide) (fun c_263 => ?_) (fun c_263 => ?_)
                      · have fc_263 := le_f c_263
                        refine lv_iconst (v := 0) hx hb dX14_readName_302 (by decide) ?_
                        refine lv_iconst (v := 5) hx hb dX14_readName_303 (by decide) ?_
                        refine lv_iload_n hx hb dX14_readName_304 rfl (lv_at hl 5 rfl) ?_
                        have go_ := g
                        refine g_callEv (As := [.int 0, .int 5, .int x_2]) (rest := []) ⟨hx, hb, hml, hown, hts⟩ (r_X14_need_2 l dC dI L kd tys fr_83 H.size g.2.2.2.1 a0_ ma0_ ka0_ 0 kb_0 5 x_2) (cwV 3 hts (gV_ t_2403 t_2405 t_100 t_198 t_2406) rfl rfl rfl (by decide +kernel) ⟨(show 1 + 1 ≤ N + 1 + 24 by omega), (show 8 + (4 + 11) + 22 ≤ 60 * (N + 1) + 700 by omega)⟩) (pre3V g hK ma0_ ka0_ (by decide) (q := (RX14, TX14, 67)) rfl) rfl hl.1 rfl (lv_room (Nat.le_of_ble_eq_true rfl)) dX14_readName_305 (cl_f hck_0) g hK (by decide) (by decide) (fx' := [(14, 17, a0_, .int x_29), (12, 24, q0_, .ref a_28), (14, 10, a0_, .int x_8), (14, 2, a0_, .ref q0_), (14, 16, a0_, .int o_), (14, 25, a0_, .int op_)]) rfl (fun xr_264 fr_264 H locs mxr_264 kxr_264 hp hMr_264 g => ?_) (fun fr_264 H locs hp hMr_264 g => ?_)
                        · have hG_265 := isN.frame hMr_264 go_.2.2.2.1 ma0_ ka0_ (by decide) (by decide) hG_85
                          have hG_266 := cEq.frame hMr_264 go_.2.2.2.1 ma0_ ka0_ (by decide) (by decide) hG_86
                          have hG_267 := isV.frame hMr_264 go_.2.2.2.1 mq0_ kq0_ (by decide) (by decide) hG_87
                          have hG_268 := FR.frame hMr_264 go_.2.2.2.1 mq0_ kq0_ (by decide) (by decide) hG_88
                          subst hQ
                          exact leavesX hempty hlocks (fun t ht hW => g_thrZ g hK mxr_264 kxr_264 ⟨hG_268, (by omega)⟩ ht hW) g.2.2.1.2.2
                        · exact hp.elim
                      · have fc_263 := nle_f c_263
                        have b_269 : bd 2000 999 r_83 := ltL fc_263 b_221 kb_1000 (by decide)
                        exact bd_no b_269 (by decide)
                · have fc_65 := neq_f c_65
                  have b_270 : bd 1 (-1) x1_ := neX fc_65 b_27 kb_0 (by decide)
                  exact bd_no b_270 (by decide)
      · have fc_26 := neq_f c_26
        have b_271 : bd 1 1 x1_ := neX fc_26 bx1_ kb_0 (by decide)
        refine lv_aload_n hx hb dX14_readName_98 rfl (lv_at hl 5 rfl) ?_
        refine g_getk (C := RX14) (T := TX14) (N := 67) hx hb hts (mc_ inX14) hown hK g rfl 2 (by decide) rfl (hts _ (List.mem_cons_of_mem _ t_2148)) (fun _ h9 => h9) 1 rfl dX14_readName_99 ?_
        refine g_geti (C := RX12) (T := TX12) (N := 60) hx hb hts (mc_ inX12) hown hK g mq0_ kq0_ (by decide) rfl 58 (by decide) rfl (hts _ (List.mem_cons_of_mem _ t_2018)) (fun _ h9 => h9) rfl dX14_readName_102 (fun x_272 bx_272 g => ?_)
        refine lv_sipush (v := 2000) hx hb dX14_readName_105 (by decide) ?_
        have kb_2000 : bd 2000 2000 (2000 : Int32) := ⟨by decide, by decide⟩
        refine lv_icmp_ge (tgt := 115) hx hb dX14_readName_108 (by decide) (fun c_273 => ?_) (fun c_273 => ?_)
        · have fc_273 := le_f c_273
          have b_274 : bd 2000 2147483647 x_272 := leR fc_273 kb_2000 (bdT x_272) (by decide)
          refine lv_iconst (v := 0) hx hb dX14_readName_115 (by decide) ?_
          refine lv_goto (tgt := 141) hx hb dX14_readName_116 (by decide) ?_
          refine lv_iconst (v := 4) hx hb dX14_readName_141 (by decide) ?_
          refine lv_iload_n hx hb dX14_readName_142 rfl (lv_at hl 4 rfl) ?_
          have go_ := g
          refine g_callEv (As := [.int 0, .int 4, .int x_2]) (rest := []) ⟨hx, hb, hml, hown, hts⟩ (r_X14_need_2 l dC dI L kd tys f H.size g.2.2.2.1 a0_ ma0_ ka0_ 0 kb_0 4 x_2) (cwV 3 hts (gV_ t_2403 t_2405 t_100 t_198 t_2406) rfl rfl rfl (by decide +kernel) ⟨(show 1 + 1 ≤ N + 1 + 24 by omega), (show 8 + (4 + 11) + 22 ≤ 60 * (N + 1) + 700 by omega)⟩) (pre3V g hK ma0_ ka0_ (by decide) (q := (RX14, TX14, 67)) rfl) rfl hl.1 rfl (lv_room (Nat.le_of_ble_eq_true rfl)) dX14_readName_143 (cl_f hck_0) g hK (by decide) (by decide) (fx' := [(12, 58, q0_, .int x_272), (14, 10, a0_, .int x_8), (14, 2, a0_, .ref q0_), (14, 16, a0_, .int o_), (14, 25, a0_, .int op_)]) rfl (fun xr_275 fr_275 H locs mxr_275 kxr_275 hp hMr_275 g => ?_) (fun fr_275 H locs hp hMr_275 g => ?_)
          · have hG_276 := isV.frame hMr_275 go_.2.2.2.1 mq0_ kq0_ (by decide) (by decide) hJ93_V_q0_
            have hG_277 := FR.frame hMr_275 go_.2.2.2.1 mq0_ kq0_ (by decide) (by decide) hJ93_F_q0_
            have hG_278 := isN.frame hMr_275 go_.2.2.2.1 ma0_ ka0_ (by decide) (by decide) hJ93_N_a0_
            have hG_279 := cEq.frame hMr_275 go_.2.2.2.1 ma0_ ka0_ (by decide) (by decide) hJ93_C_a0_
            subst hQ
            exact leavesX hempty hlocks (fun t ht hW => g_thrZ g hK mxr_275 kxr_275 ⟨hG_277, (by omega)⟩ ht hW) g.2.2.1.2.2
          · exact hp.elim
        · have fc_273 := nle_f c_273
          have b_280 : bd (-2147483648) 1999 x_272 := ltL fc_273 (bdT x_272) kb_2000 (by decide)
          refine lv_iconst (v := 1) hx hb dX14_readName_111 (by decide) ?_
          refine lv_goto (tgt := 141) hx hb dX14_readName_112 (by decide) ?_
          refine lv_iconst (v := 4) hx hb dX14_readName_141 (by decide) ?_
          refine lv_iload_n hx hb dX14_readName_142 rfl (lv_at hl 4 rfl) ?_
          have kb_1 : bd 1 1 (1 : Int32) := ⟨by decide, by decide⟩
          have go_ := g
          refine g_callEv (As := [.int 1, .int 4, .int x_2]) (rest := []) ⟨hx, hb, hml, hown, hts⟩ (r_X14_need_3 l dC dI L kd tys f H.size g.2.2.2.1 a0_ ma0_ ka0_ 1 kb_1 4 x_2) (cwV 3 hts (gV_ t_2403 t_2405 t_100 t_198 t_2406) rfl rfl rfl (by decide +kernel) ⟨(show 0 + 1 ≤ N + 1 + 24 by omega), (show 8 + (4 + 11) + 0 ≤ 60 * (N + 1) + 700 by omega)⟩) (pre3V g hK ma0_ ka0_ (by decide) (q := (RX14, TX14, 67)) rfl) rfl hl.1 rfl (lv_room (Nat.le_of_ble_eq_true rfl)) dX14_readName_143 (cl_f hck_0) g hK (by decide) (by decide) (fx' := [(12, 58, q0_, .int x_272), (14, 10, a0_, .int x_8), (14, 2, a0_, .ref q0_), (14, 16, a0_, .int o_), (14, 25, a0_, .int op_)]) rfl (fun xr_281 fr_281 H locs mxr_281 kxr_281 hp hMr_281 g => ?_) (fun fr_281 H locs hp hMr_281 g => ?_)
          · have hG_282 := isV.frame hMr_281 go_.2.2.2.1 mq0_ kq0_ (by decide) (by decide) hJ93_V_q0_
            have hG_283 := FR.frame hMr_281 go_.2.2.2.1 mq0_ kq0_ (by decide) (by decide) hJ93_F_q0_
            have hG_284 := isN.frame hMr_281 go_.2.2.2.1 ma0_ ka0_ (by decide) (by decide) hJ93_N_a0_
            have hG_285 := cEq.frame hMr_281 go_.2.2.2.1 ma0_ ka0_ (by decide) (by decide) hJ93_C_a0_
            exact hp.elim
          · have hG_286 := isV.frame hMr_281 go_.2.2.2.1 mq0_ kq0_ (by decide) (by decide) hJ93_V_q0_
            have hG_287 := FR.frame hMr_281 go_.2.2.2.1 mq0_ kq0_ (by decide) (by decide) hJ93_F_q0_
            have hG_288 := isN.frame hMr_281 go_.2.2.2.1 ma0_ ka0_ (by decide) (by decide) hJ93_N_a0_
            have hG_289 := cEq.frame hMr_281 go_.2.2.2.1 ma0_ ka0_ (by decide) (by decide) hJ93_C_a0_
            refine lv_aload_n hx hb dX14_readName_146 rfl (lv_at hl 5 rfl) ?_
            refine lv_iload hx hb dX14_readName_147 (lv_at hl 1 rfl) ?_
            refine lv_sipush (v := 1200) hx hb dX14_readName_149 (by decide) ?_
            have kb_1200 : bd 1200 1200 (1200 : Int32) := ⟨by decide, by decide⟩
            refine lv_icmp_gt (tgt := 159) hx hb dX14_readName_152 (by decide) (fun c_290 => ?_) (fun c_290 => ?_)
            · have fc_290 := lt_f c_290
              have b_291 : bd 1201 1201 t_ := ltR fc_290 kb_1200 bt_ (by decide)
              refine lv_iconst (v := 0) hx hb dX14_readName_159 (by decide) ?_
              refine lv_iconst (v := 4) hx hb dX14_readName_160 (by decide) ?_
              refine lv_iload_n hx hb dX14_readName_161 rfl (lv_at hl 4 rfl) ?_
              have go_ := g
              refine g_callEv (As := [.int 0, .int 4, .int x_2]) (rest := []) ⟨hx, hb, hml, hown, hts⟩ (r_X14_need_2 l dC dI L kd tys fr_281 H.size g.2.2.2.1 a0_ ma0_ ka0_ 0 kb_0 4 x_2) (cwV 3 hts (gV_ t_2403 t_2405 t_100 t_198 t_2406) rfl rfl rfl (by decide +kernel) ⟨(show 1 + 1 ≤ N + 1 + 24 by omega), (show 8 + (4 + 11) + 22 ≤ 60 * (N + 1) + 700 by omega)⟩) (pre3V g hK ma0_ ka0_ (by decide) (q := (RX14, TX14, 67)) rfl) rfl hl.1 rfl (lv_room (Nat.le_of_ble_eq_true rfl)) dX14_readName_162 (cl_f hck_0) g hK (by decide) (by decide) (fx' := [(12, 58, q0_, .int x_272), (14, 10, a0_, .int x_8), (14, 2, a0_, .ref q0_), (14, 16, a0_, .int o_), (14, 25, a0_, .int op_)]) rfl (fun xr_292 fr_292 H locs mxr_292 kxr_292 hp hMr_292 g => ?_) (fun fr_292 H locs hp hMr_292 g => ?_)
              · have hG_293 := isV.frame hMr_292 go_.2.2.2.1 mq0_ kq0_ (by decide) (by decide) hG_286
                have hG_294 := FR.frame hMr_292 go_.2.2.2.1 mq0_ kq0_ (by decide) (by decide) hG_287
                have hG_295 := isN.frame hMr_292 go_.2.2.2.1 ma0_ ka0_ (by decide) (by decide) hG_288
                have hG_296 := cEq.frame hMr_292 go_.2.2.2.1 ma0_ ka0_ (by decide) (by decide) hG_289
                subst hQ
                exact leavesX hempty hlocks (fun t ht hW => g_thrZ g hK mxr_292 kxr_292 ⟨hG_294, (by omega)⟩ ht hW) g.2.2.1.2.2
              · exact hp.elim
            · have fc_290 := nlt_f c_290
              have b_297 : bd 0 1200 t_ := leL fc_290 bt_ kb_1200 (by decide)
              refine lv_iconst (v := 1) hx hb dX14_readName_155 (by decide) ?_
              refine lv_goto (tgt := 160) hx hb dX14_readName_156 (by decide) ?_
              refine lv_iconst (v := 4) hx hb dX14_readName_160 (by decide) ?_
              refine lv_iload_n hx hb dX14_readName_161 rfl (lv_at hl 4 rfl) ?_
              have go_ := g
              refine g_callEv (As := [.int 1, .int 4, .int x_2]) (rest := []) ⟨hx, hb, hml, hown, hts⟩ (r_X14_need_3 l dC dI L kd tys fr_281 H.size g.2.2.2.1 a0_ ma0_ ka0_ 1 kb_1 4 x_2) (cwV 3 hts (gV_ t_2403 t_2405 t_100 t_198 t_2406) rfl rfl rfl (by decide +kernel) ⟨(show 0 + 1 ≤ N + 1 + 24 by omega), (show 8 + (4 + 11) + 0 ≤ 60 * (N + 1) + 700 by omega)⟩) (pre3V g hK ma0_ ka0_ (by decide) (q := (RX14, TX14, 67)) rfl) rfl hl.1 rfl (lv_room (Nat.le_of_ble_eq_true rfl)) dX14_readName_162 (cl_f hck_0) g hK (by decide) (by decide) (fx' := [(12, 58, q0_, .int x_272), (14, 10, a0_, .int x_8), (14, 2, a0_, .ref q0_), (14, 16, a0_, .int o_), (14, 25, a0_, .int op_)]) rfl (fun xr_298 fr_298 H locs mxr_298 kxr_298 hp hMr_298 g => ?_) (fun fr_298 H locs hp hMr_298 g => ?_)
              · have hG_299 := isV.frame hMr_298 go_.2.2.2.1 mq0_ kq0_ (by decide) (by decide) hG_286
                have hG_300 := FR.frame hMr_298 go_.2.2.2.1 mq0_ kq0_ (by decide) (by decide) hG_287
                have hG_301 := isN.frame hMr_298 go_.2.2.2.1 ma0_ ka0_ (by decide) (by decide) hG_288
                have hG_302 := cEq.frame hMr_298 go_.2.2.2.1 ma0_ ka0_ (by decide) (by decide) hG_289
                exact hp.elim
              · have hG_303 := isV.frame hMr_298 go_.2.2.2.1 mq0_ kq0_ (by decide) (by decide) hG_286
                have hG_304 := FR.frame hMr_298 go_.2.2.2.1 mq0_ kq0_ (by decide) (by decide) hG_287
                have hG_305 := isN.frame hMr_298 go_.2.2.2.1 ma0_ ka0_ (by decide) (by decide) hG_288
                have hG_306 := cEq.frame hMr_298 go_.2.2.2.1 ma0_ ka0_ (by decide) (by decide) hG_289
                refine lv_iload_n hx hb dX14_readName_165 rfl (lv_at hl 6 rfl) ?_
                refine lv_if_eq (tgt := 185) hx hb dX14_readName_166 (by decide) (fun c_307 => ?_) (fun c_307 => ?_)
                · have fc_307 := eq_f c_307
                  exact absurd fc_307 fc_26
                · have fc_307 := neq_f c_307
                  refine lv_aload_n hx hb dX14_readName_169 rfl (lv_at hl 5 rfl) ?_
                  refine g_getk (C := RX14) (T := TX14) (N := 67) hx hb hts (mc_ inX14) hown hK g rfl 2 (by decide) rfl (hts _ (List.mem_cons_of_mem _ t_2148)) (fun _ h9 => h9) 2 rfl dX14_readName_170 ?_
                  refine lv_dup hx hb dX14_readName_173 rfl ?_
                  refine g_getk (C := RX12) (T := TX12) (N := 60) hx hb hts (mc_ inX12) hown hK g rfl 58 (by decide) rfl (hts _ (List.mem_cons_of_mem _ t_2018)) (fun _ h9 => h9) 0 rfl dX14_readName_174 ?_
                  refine lv_iconst (v := 1) hx hb dX14_readName_177 (by decide) ?_
                  refine lv_iadd hx hb dX14_readName_178 ?_
                  refine lv_topi (fun y_308 ey_308 => ?_)
                  have ty_308 := add_bd ey_308 b_280 kb_1 (by decide)
                  have b_309 : bd (-2147483647) 2000 y_308 := add_rg ty_308 b_280 kb_1 (by decide)
                  have gp_310 := g
                  have go_ := g
                  refine g_putX (C := RX12) (T := TX12) (N := 60) hx hb hts (mc_ inX12) tyX12 tyX12_ok nmX12 hown hK g mq0_ kq0_ (by decide) rfl 58 (by decide) (hts _ (List.mem_cons_of_mem _ t_2018)) (fun _ h9 => h9) rfl rfl (okV_i (bd_sub b_309 (by decide))) rfl rfl (by decide) (Or.inr (Or.inl (by decide))) (fx' := [(14, 10, a0_, .int x_8), (14, 2, a0_, .ref q0_), (14, 16, a0_, .int o_), (14, 25, a0_, .int op_)]) rfl dX14_readName_179 (fun f H locs hM_311 u_314 g => ?_)
                  have hG_312 := isN.frame hM_311 go_.2.2.2.1 ma0_ ka0_ (by decide) (by decide) hG_305
                  have hG_313 := cEq.frame hM_311 go_.2.2.2.1 ma0_ ka0_ (by decide) (by decide) hG_306
                  have hV_315 := isV.u58 hG_303 gp_310.2.2.2.1 mq0_ kq0_ u_314
                  have hF_316 := FR.fld hG_304 u_314
                  refine lv_goto (tgt := 201) hx hb dX14_readName_182 (by decide) ?_
                  refine lv_iload hx hb dX14_readName_201 (lv_at hl 0 rfl) ?_
                  refine lv_if_eq (tgt := 275) hx hb dX14_readName_203 (by decide) (fun c_ => ?_) (fun c_ => absurd (by decide) c_)
                  refine lv_aload_n hx hb dX14_readName_275 rfl (lv_at hl 5 rfl) ?_
                  refine lv_lload hx hb dX14_readName_276 (lv_at hl 3 rfl) ?_
                  refine lv_lload hx hb dX14_readName_278 (lv_at hl 2 rfl) ?_
                  have go_ := g
                  refine g_calli (va_runV (As := [.long x_3, .long x_4]) (rest := []) ⟨hx, hb, hml, hown, hts⟩ (r_X14_named_2 l dC dI L kd tys f H.size g.2.2.2.1 a0_ ma0_ ka0_ x_3 x_4 q0_ mq0_ kq0_ o_ bo_ V_ N_ hG_312 hV_315 (g.fcts [2, 3] rfl)) (cwV 2 hts (gV_ t_2504 t_2506 t_122 t_198 t_2507) rfl rfl rfl (by decide +kernel) ⟨(show 1 + 1 ≤ N + 1 + 24 by omega), (show 8 + (6 + 11) + 26 ≤ 60 * (N + 1) + 700 by omega)⟩) (pre3V g hK ma0_ ka0_ (by decide) (q := (RX14, TX14, 67)) rfl) rfl rfl hl.1 rfl (lv_room (Nat.le_of_ble_eq_true rfl)) dX14_readName_280 (cl_f hck_0)) g hK (by decide) (by decide) (fx' := [(12, 58, q0_, .int y_308), (14, 10, a0_, .int x_8), (14, 2, a0_, .ref q0_), (14, 16, a0_, .int o_), (14, 25, a0_, .int op_)]) rfl (fun r_317 fr_317 H locs hp hMr_317 g => ?_)
                  obtain ⟨hx_318, -⟩ := hp
                  have hG_319 := isN.frame hMr_317 go_.2.2.2.1 ma0_ ka0_ (by decide) (by decide) hG_312
                  have hG_320 := cEq.frame hMr_317 go_.2.2.2.1 ma0_ ka0_ (by decide) (by decide) hG_313
                  have hG_321 := isV.frame hMr_317 go_.2.2.2.1 mq0_ kq0_ (by decide) (by decide) hV_315
                  have hG_322 := FR.frame hMr_317 go_.2.2.2.1 mq0_ kq0_ (by decide) (by decide) hF_316
                  rcases hx_318 with ⟨h_323, hd_324⟩ | ⟨h_323 | h_323 | h_323, hd_324⟩
                  · obtain rfl : r_317 = (-1) := Int32.toInt_inj.mp (h_323.trans (by decide))
                    exact absurd hd93 hd_324
                  · have b_325 : bd 0 9 r_317 := ⟨h_323.1, h_323.2.1⟩
                    have hv_326 : varOK V_ r_317 o_.toNatClampNeg := Or.inl h_323
                    refine lv_istore (lv' := [(10, .int r_317), (9, .int 0), (8, .int t_), (6, .long x_4), (4, .long x_3), (3, .int x_2), (0, .ref a0_), (1, .int x1_), (2, .int x2_)]) hx hb dX14_readName_283 hl (by decide) rfl (fun ls hl => ?_)
                    refine lv_aload_n hx hb dX14_readName_285 rfl (lv_at hl 6 rfl) ?_
                    refine lv_iload_n hx hb dX14_readName_286 rfl (lv_at hl 8 rfl) ?_
                    refine lv_if_eq (tgt := 298) hx hb dX14_readName_287 (by decide) (fun c_327 => ?_) (fun c_327 => ?_)
                    · have fc_327 := eq_f c_327
                      have b_328 : bd 0 0 x2_ := eqX fc_327 bx2_ kb_0 (by decide)
                      refine lv_iconst (v := 1) hx hb dX14_readName_298 (by decide) ?_
                      refine lv_goto (tgt := 303) hx hb dX14_readName_299 (by decide) ?_
                      refine lv_iconst (v := 5) hx hb dX14_readName_303 (by decide) ?_
                      refine lv_iload_n hx hb dX14_readName_304 rfl (lv_at hl 5 rfl) ?_
                      have go_ := g
                      refine g_callEv (As := [.int 1, .int 5, .int x_2]) (rest := []) ⟨hx, hb, hml, hown, hts⟩ (r_X14_need_3 l dC dI L kd tys fr_317 H.size g.2.2.2.1 a0_ ma0_ ka0_ 1 kb_1 5 x_2) (cwV 3 hts (gV_ t_2403 t_2405 t_100 t_198 t_2406) rfl rfl rfl (by decide +kernel) ⟨(show 0 + 1 ≤ N + 1 + 24 by omega), (show 8 + (4 + 11) + 0 ≤ 60 * (N + 1) + 700 by omega)⟩) (pre3V g hK ma0_ ka0_ (by decide) (q := (RX14, TX14, 67)) rfl) rfl hl.1 rfl (lv_room (Nat.le_of_ble_eq_true rfl)) dX14_readName_305 (cl_f hck_0) g hK (by decide) (by decide) (fx' := [(12, 58, q0_, .int y_308), (14, 10, a0_, .int x_8), (14, 2, a0_, .ref q0_), (14, 16, a0_, .int o_), (14, 25, a0_, .int op_)]) rfl (fun xr_329 fr_329 H locs mxr_329 kxr_329 hp hMr_329 g => ?_) (fun fr_329 H locs hp hMr_329 g => ?_)
                      · have hG_330 := isN.frame hMr_329 go_.2.2.2.1 ma0_ ka0_ (by decide) (by decide) hG_319
                        have hG_331 := cEq.frame hMr_329 go_.2.2.2.1 ma0_ ka0_ (by decide) (by decide) hG_320
                        have hG_332 := isV.frame hMr_329 go_.2.2.2.1 mq0_ kq0_ (by decide) (by decide) hG_321
                        have hG_333 := FR.frame hMr_329 go_.2.2.2.1 mq0_ kq0_ (by decide) (by decide) hG_322
                        exact hp.elim
                      · have hG_334 := isN.frame hMr_329 go_.2.2.2.1 ma0_ ka0_ (by decide) (by decide) hG_319
                        have hG_335 := cEq.frame hMr_329 go_.2.2.2.1 ma0_ ka0_ (by decide) (by decide) hG_320
                        have hG_336 := isV.frame hMr_329 go_.2.2.2.1 mq0_ kq0_ (by decide) (by decide) hG_321
                        have hG_337 := FR.frame hMr_329 go_.2.2.2.1 mq0_ kq0_ (by decide) (by decide) hG_322
                        refine lv_aload_n hx hb dX14_readName_308 rfl (lv_at hl 6 rfl) ?_
                        refine lv_iload hx hb dX14_readName_309 (lv_at hl 0 rfl) ?_
                        refine lv_iload_n hx hb dX14_readName_311 rfl (lv_at hl 5 rfl) ?_
                        refine lv_iload_n hx hb dX14_readName_312 rfl (lv_at hl 7 rfl) ?_
                        have qc__338 : cF fr_329 a0_ = _ := hG_335
                        have b_339 : bd 0 1201 x_8 := ⟨(by have h9_0 := bo_; unfold bd at h9_0; have h9_1 := bop_; unfold bd at h9_1; have h9_2 := b_325; unfold bd at h9_2; have h9_3 := bso_; unfold bd at h9_3; have h9_4 := b_297; unfold bd at h9_4; have h9_5 := b_271; unfold bd at h9_5; have h9_6 := b_328; unfold bd at h9_6; have h9_7 := bx_2; unfold bd at h9_7; have h9_8 := b_280; unfold bd at h9_8; have h9_9 := h_9; unfold bd at h9_9; have h9_10 := b_309; unfold bd at h9_10; have h8_0 := kb_0; unfold bd at h8_0; have h8_1 := kb_1; unfold bd at h8_1; have h8_2 := kb_1200; unfold bd at h8_2; have h8_3 := kb_2000; unfold bd at h8_3; omega), (by have h9_0 := bo_; unfold bd at h9_0; have h9_1 := bop_; unfold bd at h9_1; have h9_2 := b_325; unfold bd at h9_2; have h9_3 := bso_; unfold bd at h9_3; have h9_4 := b_297; unfold bd at h9_4; have h9_5 := b_271; unfold bd at h9_5; have h9_6 := b_328; unfold bd at h9_6; have h9_7 := bx_2; unfold bd at h9_7; have h9_8 := b_280; unfold bd at h9_8; have h9_9 := h_9; unfold bd at h9_9; have h9_10 := b_309; unfold bd at h9_10; have h8_0 := kb_0; unfold bd at h8_0; have h8_1 := kb_1; unfold bd at h8_1; have h8_2 := kb_1200; unfold bd at h8_2; have h8_3 := kb_2000; unfold bd at h8_3; omega)⟩
                        have go_ := g
                        refine g_callZi (As := [.int r_317, .int x_2, .int x1_]) (rest := []) ⟨hx, hb, hml, hown, hts⟩ (ih.2.2.2.2.2.1 l dC dI L kd tys fr_329 H.size g.2.2.2.1 adK adV a0_ ma0_ ka0_ r_317 x_2 x1_ (bd_sub b_271 (by decide)) q0_ mq0_ kq0_ V_ o_ bo_ op_ bop_ x_8 b_339 hG_336 hwf ho (by omega) hm_ hhm hv_326 (K_ - cl_0) (by omega) (by have h9_0 := bo_; unfold bd at h9_0; have h9_1 := bop_; unfold bd at h9_1; have h9_2 := b_325; unfold bd at h9_2; have h9_3 := bso_; unfold bd at h9_3; have h9_4 := b_297; unfold bd at h9_4; have h9_5 := b_271; unfold bd at h9_5; have h9_6 := b_328; unfold bd at h9_6; have h9_7 := bx_2; unfold bd at h9_7; have h9_8 := b_280; unfold bd at h9_8; have h9_9 := b_339; unfold bd at h9_9; have h9_10 := b_309; unfold bd at h9_10; have h8_0 := kb_0; unfold bd at h8_0; have h8_1 := kb_1; unfold bd at h8_1; have h8_2 := kb_1200; unfold bd at h8_2; have h8_3 := kb_2000; unfold bd at h8_3; omega) (g.fcts [2, 3, 4, 1] rfl)) (cwV 3 hts (gV_ t_2512 t_2514 t_124 t_198 t_2515) rfl rfl rfl (by decide +kernel) ⟨(show N + 24 + 1 ≤ N + 1 + 24 by omega), (show 8 + (8 + 11) + (60 * N + 700) ≤ 60 * (N + 1) + 700 by omega)⟩) (pre3VA g hK hAm ma0_ ka0_ (by decide) (q := (RX14, TX14, 67)) rfl) rfl hl.1 rfl (lv_room (Nat.le_of_ble_eq_true rfl)) dX14_readName_313 (cl_k (K := K_) (k := K_ - cl_0) (show cl_0 + (K_ - cl_0) ≤ K_ by omega)) g hK (by decide) (by decide) (fx' := [(14, 2, a0_, .ref q0_), (14, 16, a0_, .int o_)]) rfl (fun xr_340 fr_340 H locs kr_340 cr_340 ecr_340 mxr_340 kxr_340 hp hMr_340 g => ?_) (fun r_340 fr_340 H locs kr_340 cr_340 ecr_340 hp hMr_340 g => ?_)
                        · have hG_341 := isN.frame hMr_340 go_.2.2.2.1 ma0_ ka0_ (by decide) (by decide) hG_334
                          have hF_342 := FR.call (mds := []) (mas := []) hG_337 go_ mq0_ kq0_ rfl hp.1
                          have hpk := hp.2
                          subst hQ
                          exact leavesX hempty hlocks (fun t ht hW => g_thrZ g hK mxr_340 kxr_340 ⟨hF_342, (by omega)⟩ ht hW) g.2.2.1.2.2
                        · obtain ⟨hx_343, x_344, h_345, hF_346⟩ := hp
                          have hG_347 := isN.frame hMr_340 go_.2.2.2.1 ma0_ ka0_ (by decide) (by decide) hG_334
                          obtain ⟨V_348, E_349, hV_350, hF_351, hE_352, hX_353, hw_354, hv_355, hP_356, hn_357, hk_358, hc_359⟩ := rd_use hx_343 hG_335
                          have hF_360 := FR.call (mds := []) (mas := []) hG_337 go_ mq0_ kq0_ rfl hF_351
                          have mxE_349 : E_349 ≤ 1202 := by have h9 := cF_le g ma0_ ka0_; have h8 : cF _ _ = _ := hE_352; omega
                          have hx_361 := exN.tr exN.rf hX_353
                          have hv_362 := exN.var hX_353 hv_326
                          have hd_363 := nmd_ex hX_353 hd_324
                          have hck_364 : cr_340 ≤ K_ := by omega
                          have b_365 : bd 0 2499 r_340 := ⟨hv_355.1, (by have h9 := hv_355.2.1; omega)⟩
                          have g := g.more hF_346
                          have h9c : cF fr_340 a0_ = _ := hE_352
                          subst hQ
                          exact iretX (v := r_340) hx hb hr (fun t ht hW => g_retZ g hK ⟨_, rfl, ⟨⟨_, hV_350, hF_360, hx_361, hw_354, hv_355, ⟨Or.inl hP_356, fun _ => hP_356⟩, (by omega), (by omega), (by omega)⟩, x_344, h_345, (g.fcts [0, 1] rfl)⟩⟩ ht hW) g.2.2.1.2.2 dX14_readName_316 hlocks
                    · have fc_327 := neq_f c_327
                      have b_366 : bd 1 1 x2_ := neX fc_327 bx2_ kb_0 (by decide)
                      refine lv_iload hx hb dX14_readName_290 (lv_at hl 0 rfl) ?_
                      refine lv_sipush (v := 1000) hx hb dX14_readName_292 (by decide) ?_
                      have kb_1000 : bd 1000 1000 (1000 : Int32) := ⟨by decide, by decide⟩
                      refine lv_icmp_ge (tgt := 302) hx hb dX14_readName_295 (by decide) (fun c_367 => ?_) (fun c_367 => ?_)
                      · have fc_367 := le_f c_367
                        have b_368 : bd 1000 9 (1000 : Int32) := leL fc_367 kb_1000 b_325 (by decide)
                        exact bd_no (eqX rfl b_368 kb_1000 (lo := 1000) (hi := 9) (by decide)) (by decide)
                      · have fc_367 := nle_f c_367
                        refine lv_iconst (v := 1) hx hb dX14_readName_298 (by decide) ?_
                        refine lv_goto (tgt := 303) hx hb dX14_readName_299 (by decide) ?_
                        refine lv_iconst (v := 5) hx hb dX14_readName_303 (by decide) ?_
                        refine lv_iload_n hx hb dX14_readName_304 rfl (lv_at hl 5 rfl) ?_
                        have go_ := g
                        refine g_callEv (As := [.int 1, .int 5, .int x_2]) (rest := []) ⟨hx, hb, hml, hown, hts⟩ (r_X14_need_3 l dC dI L kd tys fr_317 H.size g.2.2.2.1 a0_ ma0_ ka0_ 1 kb_1 5 x_2) (cwV 3 hts (gV_ t_2403 t_2405 t_100 t_198 t_2406) rfl rfl rfl (by decide +kernel) ⟨(show 0 + 1 ≤ N + 1 + 24 by omega), (show 8 + (4 + 11) + 0 ≤ 60 * (N + 1) + 700 by omega)⟩) (pre3V g hK ma0_ ka0_ (by decide) (q := (RX14, TX14, 67)) rfl) rfl hl.1 rfl (lv_room (Nat.le_of_ble_eq_true rfl)) dX14_readName_305 (cl_f hck_0) g hK (by decide) (by decide) (fx' := [(12, 58, q0_, .int y_308), (14, 10, a0_, .int x_8), (14, 2, a0_, .ref q0_), (14, 16, a0_, .int o_), (14, 25, a0_, .int op_)]) rfl (fun xr_369 fr_369 H locs mxr_369 kxr_369 hp hMr_369 g => ?_) (fun fr_369 H locs hp hMr_369 g => ?_)
                        · have hG_370 := isN.frame hMr_369 go_.2.2.2.1 ma0_ ka0_ (by decide) (by decide) hG_319
                          have hG_371 := cEq.frame hMr_369 go_.2.2.2.1 ma0_ ka0_ (by decide) (by decide) hG_320
                          have hG_372 := isV.frame hMr_369 go_.2.2.2.1 mq0_ kq0_ (by decide) (by decide) hG_321
                          have hG_373 := FR.frame hMr_369 go_.2.2.2.1 mq0_ kq0_ (by decide) (by decide) hG_322
                          exact hp.elim
                        · have hG_374 := isN.frame hMr_369 go_.2.2.2.1 ma0_ ka0_ (by decide) (by decide) hG_319
                          have hG_375 := cEq.frame hMr_369 go_.2.2.2.1 ma0_ ka0_ (by decide) (by decide) hG_320
                          have hG_376 := isV.frame hMr_369 go_.2.2.2.1 mq0_ kq0_ (by decide) (by decide) hG_321
                          have hG_377 := FR.frame hMr_369 go_.2.2.2.1 mq0_ kq0_ (by decide) (by decide) hG_322
                          refine lv_aload_n hx hb dX14_readName_308 rfl (lv_at hl 6 rfl) ?_
                          refine lv_iload hx hb dX14_readName_309 (lv_at hl 0 rfl) ?_
                          refine lv_iload_n hx hb dX14_readName_311 rfl (lv_at hl 5 rfl) ?_
                          refine lv_iload_n hx hb dX14_readName_312 rfl (lv_at hl 7 rfl) ?_
                          have qc__378 : cF fr_369 a0_ = _ := hG_375
                          have b_379 : bd 0 1201 x_8 := ⟨(by have h9_0 := bo_; unfold bd at h9_0; have h9_1 := bop_; unfold bd at h9_1; have h9_2 := b_325; unfold bd at h9_2; have h9_3 := bso_; unfold bd at h9_3; have h9_4 := b_297; unfold bd at h9_4; have h9_5 := b_271; unfold bd at h9_5; have h9_6 := b_366; unfold bd at h9_6; have h9_7 := bx_2; unfold bd at h9_7; have h9_8 := b_280; unfold bd at h9_8; have h9_9 := h_9; unfold bd at h9_9; have h9_10 := b_309; unfold bd at h9_10; have h8_0 := kb_0; unfold bd at h8_0; have h8_1 := kb_1; unfold bd at h8_1; have h8_2 := kb_1000; unfold bd at h8_2; have h8_3 := kb_1200; unfold bd at h8_3; have h8_4 := kb_2000; unfold bd at h8_4; omega), (by have h9_0 := bo_; unfold bd at h9_0; have h9_1 := bop_; unfold bd at h9_1; have h9_2 := b_325; unfold bd at h9_2; have h9_3 := bso_; unfold bd at h9_3; have h9_4 := b_297; unfold bd at h9_4; have h9_5 := b_271; unfold bd at h9_5; have h9_6 := b_366; unfold bd at h9_6; have h9_7 := bx_2; unfold bd at h9_7; have h9_8 := b_280; unfold bd at h9_8; have h9_9 := h_9; unfold bd at h9_9; have h9_10 := b_309; unfold bd at h9_10; have h8_0 := kb_0; unfold bd at h8_0; have h8_1 := kb_1; unfold bd at h8_1; have h8_2 := kb_1000; unfold bd at h8_2; have h8_3 := kb_1200; unfold bd at h8_3; have h8_4 := kb_2000; unfold bd at h8_4; omega)⟩
                          have go_ := g
                          refine g_callZi (As := [.int r_317, .int x_2, .int x1_]) (rest := []) ⟨hx, hb, hml, hown, hts⟩ (ih.2.2.2.2.2.1 l dC dI L kd tys fr_369 H.size g.2.2.2.1 adK adV a0_ ma0_ ka0_ r_317 x_2 x1_ (bd_sub b_271 (by decide)) q0_ mq0_ kq0_ V_ o_ bo_ op_ bop_ x_8 b_379 hG_376 hwf ho (by omega) hm_ hhm hv_326 (K_ - cl_0) (by omega) (by have h9_0 := bo_; unfold bd at h9_0; have h9_1 := bop_; unfold bd at h9_1; have h9_2 := b_325; unfold bd at h9_2; have h9_3 := bso_; unfold bd at h9_3; have h9_4 := b_297; unfold bd at h9_4; have h9_5 := b_271; unfold bd at h9_5; have h9_6 := b_366; unfold bd at h9_6; have h9_7 := bx_2; unfold bd at h9_7; have h9_8 := b_280; unfold bd at h9_8; have h9_9 := b_379; unfold bd at h9_9; have h9_10 := b_309; unfold bd at h9_10; have h8_0 := kb_0; unfold bd at h8_0; have h8_1 := kb_1; unfold bd at h8_1; have h8_2 := kb_1000; unfold bd at h8_2; have h8_3 := kb_1200; unfold bd at h8_3; have h8_4 := kb_2000; unfold bd at h8_4; omega) (g.fcts [2, 3, 4, 1] rfl)) (cwV 3 hts (gV_ t_2512 t_2514 t_124 t_198 t_2515) rfl rfl rfl (by decide +kernel) ⟨(show N + 24 + 1 ≤ N + 1 + 24 by omega), (show 8 + (8 + 11) + (60 * N + 700) ≤ 60 * (N + 1) + 700 by omega)⟩) (pre3VA g hK hAm ma0_ ka0_ (by decide) (q := (RX14, TX14, 67)) rfl) rfl hl.1 rfl (lv_room (Nat.le_of_ble_eq_true rfl)) dX14_readName_313 (cl_k (K := K_) (k := K_ - cl_0) (show cl_0 + (K_ - cl_0) ≤ K_ by omega)) g hK (by decide) (by decide) (fx' := [(14, 2, a0_, .ref q0_), (14, 16, a0_, .int o_)]) rfl (fun xr_380 fr_380 H locs kr_380 cr_380 ecr_380 mxr_380 kxr_380 hp hMr_380 g => ?_) (fun r_380 fr_380 H locs kr_380 cr_380 ecr_380 hp hMr_380 g => ?_)
                          · have hG_381 := isN.frame hMr_380 go_.2.2.2.1 ma0_ ka0_ (by decide) (by decide) hG_374
                            have hF_382 := FR.call (mds := []) (mas := []) hG_377 go_ mq0_ kq0_ rfl hp.1
                            have hpk := hp.2
                            subst hQ
                            exact leavesX hempty hlocks (fun t ht hW => g_thrZ g hK mxr_380 kxr_380 ⟨hF_382, (by omega)⟩ ht hW) g.2.2.1.2.2
                          · obtain ⟨hx_383, x_384, h_385, hF_386⟩ := hp
                            have hG_387 := isN.frame hMr_380 go_.2.2.2.1 ma0_ ka0_ (by decide) (by decide) hG_374
                            obtain ⟨V_388, E_389, hV_390, hF_391, hE_392, hX_393, hw_394, hv_395, hP_396, hn_397, hk_398, hc_399⟩ := rd_use hx_383 hG_375
                            have hF_400 := FR.call (mds := []) (mas := []) hG_377 go_ mq0_ kq0_ rfl hF_391
                            have mxE_389 : E_389 ≤ 1202 := by have h9 := cF_le g ma0_ ka0_; have h8 : cF _ _ = _ := hE_392; omega
                            have hx_401 := exN.tr exN.rf hX_393
                            have hv_402 := exN.var hX_393 hv_326
                            have hd_403 := nmd_ex hX_393 hd_324
                            have hck_404 : cr_380 ≤ K_ := by omega
                            have b_405 : bd 0 2499 r_380 := ⟨hv_395.1, (by have h9 := hv_395.2.1; omega)⟩
                            have g := g.more hF_386
                            have h9c : cF fr_380 a0_ = _ := hE_392
                            subst hQ
                            exact iretX (v := r_380) hx hb hr (fun t ht hW => g_retZ g hK ⟨_, rfl, ⟨⟨_, hV_390, hF_400, hx_401, hw_394, hv_395, ⟨Or.inl hP_396, fun _ => hP_396⟩, (by omega), (by omega), (by omega)⟩, x_384, h_385, (g.fcts [0, 1] rfl)⟩⟩ ht hW) g.2.2.1.2.2 dX14_readName_316 hlocks
                  · have b_406 : bd 1000 1002 r_317 := ⟨h_323.1, h_323.2⟩
                    have hv_407 : varOK V_ r_317 o_.toNatClampNeg := Or.inr (Or.inl h_323)
                    refine lv_istore (lv' := [(10, .int r_317), (9, .int 0), (8, .int t_), (6, .long x_4), (4, .long x_3), (3, .int x_2), (0, .ref a0_), (1, .int x1_), (2, .int x2_)]) hx hb dX14_readName_283 hl (by decide) rfl (fun ls hl => ?_)
                    refine lv_aload_n hx hb dX14_readName_285 rfl (lv_at hl 6 rfl) ?_
                    refine lv_iload_n hx hb dX14_readName_286 rfl (lv_at hl 8 rfl) ?_
                    refine lv_if_eq (tgt := 298) hx hb dX14_readName_287 (by decide) (fun c_408 => ?_) (fun c_408 => ?_)
                    · have fc_408 := eq_f c_408
                      have b_409 : bd 0 0 x2_ := eqX fc_408 bx2_ kb_0 (by decide)
                      refine lv_iconst (v := 1) hx hb dX14_readName_298 (by decide) ?_
                      refine lv_goto (tgt := 303) hx hb dX14_readName_299 (by decide) ?_
                      refine lv_iconst (v := 5) hx hb dX14_readName_303 (by decide) ?_
                      refine lv_iload_n hx hb dX14_readName_304 rfl (lv_at hl 5 rfl) ?_
                      have go_ := g
                      refine g_callEv (As := [.int 1, .int 5, .int x_2]) (rest := []) ⟨hx, hb, hml, hown, hts⟩ (r_X14_need_3 l dC dI L kd tys fr_317 H.size g.2.2.2.1 a0_ ma0_ ka0_ 1 kb_1 5 x_2) (cwV 3 hts (gV_ t_2403 t_2405 t_100 t_198 t_2406) rfl rfl rfl (by decide +kernel) ⟨(show 0 + 1 ≤ N + 1 + 24 by omega), (show 8 + (4 + 11) + 0 ≤ 60 * (N + 1) + 700 by omega)⟩) (pre3V g hK ma0_ ka0_ (by decide) (q := (RX14, TX14, 67)) rfl) rfl hl.1 rfl (lv_room (Nat.le_of_ble_eq_true rfl)) dX14_readName_305 (cl_f hck_0) g hK (by decide) (by decide) (fx' := [(12, 58, q0_, .int y_308), (14, 10, a0_, .int x_8), (14, 2, a0_, .ref q0_), (14, 16, a0_, .int o_), (14, 25, a0_, .int op_)]) rfl (fun xr_410 fr_410 H locs mxr_410 kxr_410 hp hMr_410 g => ?_) (fun fr_410 H locs hp hMr_410 g => ?_)
                      · have hG_411 := isN.frame hMr_410 go_.2.2.2.1 ma0_ ka0_ (by decide) (by decide) hG_319
                        have hG_412 := cEq.frame hMr_410 go_.2.2.2.1 ma0_ ka0_ (by decide) (by decide) hG_320
                        have hG_413 := isV.frame hMr_410 go_.2.2.2.1 mq0_ kq0_ (by decide) (by decide) hG_321
                        have hG_414 := FR.frame hMr_410 go_.2.2.2.1 mq0_ kq0_ (by decide) (by decide) hG_322
                        exact hp.elim
                      · have hG_415 := isN.frame hMr_410 go_.2.2.2.1 ma0_ ka0_ (by decide) (by decide) hG_319
                        have hG_416 := cEq.frame hMr_410 go_.2.2.2.1 ma0_ ka0_ (by decide) (by decide) hG_320
                        have hG_417 := isV.frame hMr_410 go_.2.2.2.1 mq0_ kq0_ (by decide) (by decide) hG_321
                        have hG_418 := FR.frame hMr_410 go_.2.2.2.1 mq0_ kq0_ (by decide) (by decide) hG_322
                        refine lv_aload_n hx hb dX14_readName_308 rfl (lv_at hl 6 rfl) ?_
                        refine lv_iload hx hb dX14_readName_309 (lv_at hl 0 rfl) ?_
                        refine lv_iload_n hx hb dX14_readName_311 rfl (lv_at hl 5 rfl) ?_
                        refine lv_iload_n hx hb dX14_readName_312 rfl (lv_at hl 7 rfl) ?_
                        have qc__419 : cF fr_410 a0_ = _ := hG_416
                        have b_420 : bd 0 1201 x_8 := ⟨(by have h9_0 := bo_; unfold bd at h9_0; have h9_1 := bop_; unfold bd at h9_1; have h9_2 := b_406; unfold bd at h9_2; have h9_3 := bso_; unfold bd at h9_3; have h9_4 := b_297; unfold bd at h9_4; have h9_5 := b_271; unfold bd at h9_5; have h9_6 := b_409; unfold bd at h9_6; have h9_7 := bx_2; unfold bd at h9_7; have h9_8 := b_280; unfold bd at h9_8; have h9_9 := h_9; unfold bd at h9_9; have h9_10 := b_309; unfold bd at h9_10; have h8_0 := kb_0; unfold bd at h8_0; have h8_1 := kb_1; unfold bd at h8_1; have h8_2 := kb_1200; unfold bd at h8_2; have h8_3 := kb_2000; unfold bd at h8_3; omega), (by have h9_0 := bo_; unfold bd at h9_0; have h9_1 := bop_; unfold bd at h9_1; have h9_2 := b_406; unfold bd at h9_2; have h9_3 := bso_; unfold bd at h9_3; have h9_4 := b_297; unfold bd at h9_4; have h9_5 := b_271; unfold bd at h9_5; have h9_6 := b_409; unfold bd at h9_6; have h9_7 := bx_2; unfold bd at h9_7; have h9_8 := b_280; unfold bd at h9_8; have h9_9 := h_9; unfold bd at h9_9; have h9_10 := b_309; unfold bd at h9_10; have h8_0 := kb_0; unfold bd at h8_0; have h8_1 := kb_1; unfold bd at h8_1; have h8_2 := kb_1200; unfold bd at h8_2; have h8_3 := kb_2000; unfold bd at h8_3; omega)⟩
                        have go_ := g
                        refine g_callZi (As := [.int r_317, .int x_2, .int x1_]) (rest := []) ⟨hx, hb, hml, hown, hts⟩ (ih.2.2.2.2.2.1 l dC dI L kd tys fr_410 H.size g.2.2.2.1 adK adV a0_ ma0_ ka0_ r_317 x_2 x1_ (bd_sub b_271 (by decide)) q0_ mq0_ kq0_ V_ o_ bo_ op_ bop_ x_8 b_420 hG_417 hwf ho (by omega) hm_ hhm hv_407 (K_ - cl_0) (by omega) (by have h9_0 := bo_; unfold bd at h9_0; have h9_1 := bop_; unfold bd at h9_1; have h9_2 := b_406; unfold bd at h9_2; have h9_3 := bso_; unfold bd at h9_3; have h9_4 := b_297; unfold bd at h9_4; have h9_5 := b_271; unfold bd at h9_5; have h9_6 := b_409; unfold bd at h9_6; have h9_7 := bx_2; unfold bd at h9_7; have h9_8 := b_280; unfold bd at h9_8; have h9_9 := b_420; unfold bd at h9_9; have h9_10 := b_309; unfold bd at h9_10; have h8_0 := kb_0; unfold bd at h8_0; have h8_1 := kb_1; unfold bd at h8_1; have h8_2 := kb_1200; unfold bd at h8_2; have h8_3 := kb_2000; unfold bd at h8_3; omega) (g.fcts [2, 3, 4, 1] rfl)) (cwV 3 hts (gV_ t_2512 t_2514 t_124 t_198 t_2515) rfl rfl rfl (by decide +kernel) ⟨(show N + 24 + 1 ≤ N + 1 + 24 by omega), (show 8 + (8 + 11) + (60 * N + 700) ≤ 60 * (N + 1) + 700 by omega)⟩) (pre3VA g hK hAm ma0_ ka0_ (by decide) (q := (RX14, TX14, 67)) rfl) rfl hl.1 rfl (lv_room (Nat.le_of_ble_eq_true rfl)) dX14_readName_313 (cl_k (K := K_) (k := K_ - cl_0) (show cl_0 + (K_ - cl_0) ≤ K_ by omega)) g hK (by decide) (by decide) (fx' := [(14, 2, a0_, .ref q0_), (14, 16, a0_, .int o_)]) rfl (fun xr_421 fr_421 H locs kr_421 cr_421 ecr_421 mxr_421 kxr_421 hp hMr_421 g => ?_) (fun r_421 fr_421 H locs kr_421 cr_421 ecr_421 hp hMr_421 g => ?_)
                        · have hG_422 := isN.frame hMr_421 go_.2.2.2.1 ma0_ ka0_ (by decide) (by decide) hG_415
                          have hF_423 := FR.call (mds := []) (mas := []) hG_418 go_ mq0_ kq0_ rfl hp.1
                          have hpk := hp.2
                          subst hQ
                          exact leavesX hempty hlocks (fun t ht hW => g_thrZ g hK mxr_421 kxr_421 ⟨hF_423, (by omega)⟩ ht hW) g.2.2.1.2.2
                        · obtain ⟨hx_424, x_425, h_426, hF_427⟩ := hp
                          have hG_428 := isN.frame hMr_421 go_.2.2.2.1 ma0_ ka0_ (by decide) (by decide) hG_415
                          obtain ⟨V_429, E_430, hV_431, hF_432, hE_433, hX_434, hw_435, hv_436, hP_437, hn_438, hk_439, hc_440⟩ := rd_use hx_424 hG_416
                          have hF_441 := FR.call (mds := []) (mas := []) hG_418 go_ mq0_ kq0_ rfl hF_432
                          have mxE_430 : E_430 ≤ 1202 := by have h9 := cF_le g ma0_ ka0_; have h8 : cF _ _ = _ := hE_433; omega
                          have hx_442 := exN.tr exN.rf hX_434
                          have hv_443 := exN.var hX_434 hv_407
                          have hd_444 := nmd_ex hX_434 hd_324
                          have hck_445 : cr_421 ≤ K_ := by omega
                          have b_446 : bd 0 2499 r_421 := ⟨hv_436.1, (by have h9 := hv_436.2.1; omega)⟩
                          have g := g.more hF_427
                          have h9c : cF fr_421 a0_ = _ := hE_433
                          subst hQ
                          exact iretX (v := r_421) hx hb hr (fun t ht hW => g_retZ g hK ⟨_, rfl, ⟨⟨_, hV_431, hF_441, hx_442, hw_435, hv_436, ⟨Or.inl hP_437, fun _ => hP_437⟩, (by omega), (by omega), (by omega)⟩, x_425, h_426, (g.fcts [0, 1] rfl)⟩⟩ ht hW) g.2.2.1.2.2 dX14_readName_316 hlocks
                    · have fc_408 := neq_f c_408
                      have b_447 : bd 1 1 x2_ := neX fc_408 bx2_ kb_0 (by decide)
                      refine lv_iload hx hb dX14_readName_290 (lv_at hl 0 rfl) ?_
                      refine lv_sipush (v := 1000) hx hb dX14_readName_292 (by decide) ?_
                      have kb_1000 : bd 1000 1000 (1000 : Int32) := ⟨by decide, by decide⟩
                      refine lv_icmp_ge (tgt := 302) hx hb dX14_readName_295 (by decide) (fun c_448 => ?_) (fun c_448 => ?_)
                      · have fc_448 := le_f c_448
                        refine lv_iconst (v := 0) hx hb dX14_readName_302 (by decide) ?_
                        refine lv_iconst (v := 5) hx hb dX14_readName_303 (by decide) ?_
                        refine lv_iload_n hx hb dX14_readName_304 rfl (lv_at hl 5 rfl) ?_
                        have go_ := g
                        refine g_callEv (As := [.int 0, .int 5, .int x_2]) (rest := []) ⟨hx, hb, hml, hown, hts⟩ (r_X14_need_2 l dC dI L kd tys fr_317 H.size g.2.2.2.1 a0_ ma0_ ka0_ 0 kb_0 5 x_2) (cwV 3 hts (gV_ t_2403 t_2405 t_100 t_198 t_2406) rfl rfl rfl (by decide +kernel) ⟨(show 1 + 1 ≤ N + 1 + 24 by omega), (show 8 + (4 + 11) + 22 ≤ 60 * (N + 1) + 700 by omega)⟩) (pre3V g hK ma0_ ka0_ (by decide) (q := (RX14, TX14, 67)) rfl) rfl hl.1 rfl (lv_room (Nat.le_of_ble_eq_true rfl)) dX14_readName_305 (cl_f hck_0) g hK (by decide) (by decide) (fx' := [(12, 58, q0_, .int y_308), (14, 10, a0_, .int x_8), (14, 2, a0_, .ref q0_), (14, 16, a0_, .int o_), (14, 25, a0_, .int op_)]) rfl (fun xr_449 fr_449 H locs mxr_449 kxr_449 hp hMr_449 g => ?_) (fun fr_449 H locs hp hMr_449 g => ?_)
                        · have hG_450 := isN.frame hMr_449 go_.2.2.2.1 ma0_ ka0_ (by decide) (by decide) hG_319
                          have hG_451 := cEq.frame hMr_449 go_.2.2.2.1 ma0_ ka0_ (by decide) (by decide) hG_320
                          have hG_452 := isV.frame hMr_449 go_.2.2.2.1 mq0_ kq0_ (by decide) (by decide) hG_321
                          have hG_453 := FR.frame hMr_449 go_.2.2.2.1 mq0_ kq0_ (by decide) (by decide) hG_322
                          subst hQ
                          exact leavesX hempty hlocks (fun t ht hW => g_thrZ g hK mxr_449 kxr_449 ⟨hG_453, (by omega)⟩ ht hW) g.2.2.1.2.2
                        · exact hp.elim
                      · have fc_448 := nle_f c_448
                        have b_454 : bd 1000 999 r_317 := ltL fc_448 b_406 kb_1000 (by decide)
                        exact bd_no b_454 (by decide)
                  · have b_455 : bd 2000 2007 r_317 := ⟨h_323.1, h_323.2⟩
                    have hv_456 : varOK V_ r_317 o_.toNatClampNeg := Or.inr (Or.inr h_323)
                    refine lv_istore (lv' := [(10, .int r_317), (9, .int 0), (8, .int t_), (6, .long x_4), (4, .long x_3), (3, .int x_2), (0, .ref a0_), (1, .int x1_), (2, .int x2_)]) hx hb dX14_readName_283 hl (by decide) rfl (fun ls hl => ?_)
                    refine lv_aload_n hx hb dX14_readName_285 rfl (lv_at hl 6 rfl) ?_
                    refine lv_iload_n hx hb dX14_readName_286 rfl (lv_at hl 8 rfl) ?_
                    refine lv_if_eq (tgt := 298) hx hb dX14_readName_287 (by decide) (fun c_457 => ?_) (fun c_457 => ?_)
                    · have fc_457 := eq_f c_457
                      have b_458 : bd 0 0 x2_ := eqX fc_457 bx2_ kb_0 (by decide)
                      refine lv_iconst (v := 1) hx hb dX14_readName_298 (by decide) ?_
                      refine lv_goto (tgt := 303) hx hb dX14_readName_299 (by decide) ?_
                      refine lv_iconst (v := 5) hx hb dX14_readName_303 (by decide) ?_
                      refine lv_iload_n hx hb dX14_readName_304 rfl (lv_at hl 5 rfl) ?_
                      have go_ := g
                      refine g_callEv (As := [.int 1, .int 5, .int x_2]) (rest := []) ⟨hx, hb, hml, hown, hts⟩ (r_X14_need_3 l dC dI L kd tys fr_317 H.size g.2.2.2.1 a0_ ma0_ ka0_ 1 kb_1 5 x_2) (cwV 3 hts (gV_ t_2403 t_2405 t_100 t_198 t_2406) rfl rfl rfl (by decide +kernel) ⟨(show 0 + 1 ≤ N + 1 + 24 by omega), (show 8 + (4 + 11) + 0 ≤ 60 * (N + 1) + 700 by omega)⟩) (pre3V g hK ma0_ ka0_ (by decide) (q := (RX14, TX14, 67)) rfl) rfl hl.1 rfl (lv_room (Nat.le_of_ble_eq_true rfl)) dX14_readName_305 (cl_f hck_0) g hK (by decide) (by decide) (fx' := [(12, 58, q0_, .int y_308), (14, 10, a0_, .int x_8), (14, 2, a0_, .ref q0_), (14, 16, a0_, .int o_), (14, 25, a0_, .int op_)]) rfl (fun xr_459 fr_459 H locs mxr_459 kxr_459 hp hMr_459 g => ?_) (fun fr_459 H locs hp hMr_459 g => ?_)
                      · have hG_460 := isN.frame hMr_459 go_.2.2.2.1 ma0_ ka0_ (by decide) (by decide) hG_319
                        have hG_461 := cEq.frame hMr_459 go_.2.2.2.1 ma0_ ka0_ (by decide) (by decide) hG_320
                        have hG_462 := isV.frame hMr_459 go_.2.2.2.1 mq0_ kq0_ (by decide) (by decide) hG_321
                        have hG_463 := FR.frame hMr_459 go_.2.2.2.1 mq0_ kq0_ (by decide) (by decide) hG_322
                        exact hp.elim
                      · have hG_464 := isN.frame hMr_459 go_.2.2.2.1 ma0_ ka0_ (by decide) (by decide) hG_319
                        have hG_465 := cEq.frame hMr_459 go_.2.2.2.1 ma0_ ka0_ (by decide) (by decide) hG_320
                        have hG_466 := isV.frame hMr_459 go_.2.2.2.1 mq0_ kq0_ (by decide) (by decide) hG_321
                        have hG_467 := FR.frame hMr_459 go_.2.2.2.1 mq0_ kq0_ (by decide) (by decide) hG_322
                        refine lv_aload_n hx hb dX14_readName_308 rfl (lv_at hl 6 rfl) ?_
                        refine lv_iload hx hb dX14_readName_309 (lv_at hl 0 rfl) ?_
                        refine lv_iload_n hx hb dX14_readName_311 rfl (lv_at hl 5 rfl) ?_
                        refine lv_iload_n hx hb dX14_readName_312 rfl (lv_at hl 7 rfl) ?_
                        have qc__468 : cF fr_459 a0_ = _ := hG_465
                        have b_469 : bd 0 1201 x_8 := ⟨(by have h9_0 := bo_; unfold bd at h9_0; have h9_1 := bop_; unfold bd at h9_1; have h9_2 := b_455; unfold bd at h9_2; have h9_3 := bso_; unfold bd at h9_3; have h9_4 := b_297; unfold bd at h9_4; have h9_5 := b_271; unfold bd at h9_5; have h9_6 := b_458; unfold bd at h9_6; have h9_7 := bx_2; unfold bd at h9_7; have h9_8 := b_280; unfold bd at h9_8; have h9_9 := h_9; unfold bd at h9_9; have h9_10 := b_309; unfold bd at h9_10; have h8_0 := kb_0; unfold bd at h8_0; have h8_1 := kb_1; unfold bd at h8_1; have h8_2 := kb_1200; unfold bd at h8_2; have h8_3 := kb_2000; unfold bd at h8_3; omega), (by have h9_0 := bo_; unfold bd at h9_0; have h9_1 := bop_; unfold bd at h9_1; have h9_2 := b_455; unfold bd at h9_2; have h9_3 := bso_; unfold bd at h9_3; have h9_4 := b_297; unfold bd at h9_4; have h9_5 := b_271; unfold bd at h9_5; have h9_6 := b_458; unfold bd at h9_6; have h9_7 := bx_2; unfold bd at h9_7; have h9_8 := b_280; unfold bd at h9_8; have h9_9 := h_9; unfold bd at h9_9; have h9_10 := b_309; unfold bd at h9_10; have h8_0 := kb_0; unfold bd at h8_0; have h8_1 := kb_1; unfold bd at h8_1; have h8_2 := kb_1200; unfold bd at h8_2; have h8_3 := kb_2000; unfold bd at h8_3; omega)⟩
                        have go_ := g
                        refine g_callZi (As := [.int r_317, .int x_2, .int x1_]) (rest := []) ⟨hx, hb, hml, hown, hts⟩ (ih.2.2.2.2.2.1 l dC dI L kd tys fr_459 H.size g.2.2.2.1 adK adV a0_ ma0_ ka0_ r_317 x_2 x1_ (bd_sub b_271 (by decide)) q0_ mq0_ kq0_ V_ o_ bo_ op_ bop_ x_8 b_469 hG_466 hwf ho (by omega) hm_ hhm hv_456 (K_ - cl_0) (by omega) (by have h9_0 := bo_; unfold bd at h9_0; have h9_1 := bop_; unfold bd at h9_1; have h9_2 := b_455; unfold bd at h9_2; have h9_3 := bso_; unfold bd at h9_3; have h9_4 := b_297; unfold bd at h9_4; have h9_5 := b_271; unfold bd at h9_5; have h9_6 := b_458; unfold bd at h9_6; have h9_7 := bx_2; unfold bd at h9_7; have h9_8 := b_280; unfold bd at h9_8; have h9_9 := b_469; unfold bd at h9_9; have h9_10 := b_309; unfold bd at h9_10; have h8_0 := kb_0; unfold bd at h8_0; have h8_1 := kb_1; unfold bd at h8_1; have h8_2 := kb_1200; unfold bd at h8_2; have h8_3 := kb_2000; unfold bd at h8_3; omega) (g.fcts [2, 3, 4, 1] rfl)) (cwV 3 hts (gV_ t_2512 t_2514 t_124 t_198 t_2515) rfl rfl rfl (by decide +kernel) ⟨(show N + 24 + 1 ≤ N + 1 + 24 by omega), (show 8 + (8 + 11) + (60 * N + 700) ≤ 60 * (N + 1) + 700 by omega)⟩) (pre3VA g hK hAm ma0_ ka0_ (by decide) (q := (RX14, TX14, 67)) rfl) rfl hl.1 rfl (lv_room (Nat.le_of_ble_eq_true rfl)) dX14_readName_313 (cl_k (K := K_) (k := K_ - cl_0) (show cl_0 + (K_ - cl_0) ≤ K_ by omega)) g hK (by decide) (by decide) (fx' := [(14, 2, a0_, .ref q0_), (14, 16, a0_, .int o_)]) rfl (fun xr_470 fr_470 H locs kr_470 cr_470 ecr_470 mxr_470 kxr_470 hp hMr_470 g => ?_) (fun r_470 fr_470 H locs kr_470 cr_470 ecr_470 hp hMr_470 g => ?_)
                        · have hG_471 := isN.frame hMr_470 go_.2.2.2.1 ma0_ ka0_ (by decide) (by decide) hG_464
                          have hF_472 := FR.call (mds := []) (mas := []) hG_467 go_ mq0_ kq0_ rfl hp.1
                          have hpk := hp.2
                          subst hQ
                          exact leavesX hempty hlocks (fun t ht hW => g_thrZ g hK mxr_470 kxr_470 ⟨hF_472, (by omega)⟩ ht hW) g.2.2.1.2.2
                        · obtain ⟨hx_473, x_474, h_475, hF_476⟩ := hp
                          have hG_477 := isN.frame hMr_470 go_.2.2.2.1 ma0_ ka0_ (by decide) (by decide) hG_464
                          obtain ⟨V_478, E_479, hV_480, hF_481, hE_482, hX_483, hw_484, hv_485, hP_486, hn_487, hk_488, hc_489⟩ := rd_use hx_473 hG_465
                          have hF_490 := FR.call (mds := []) (mas := []) hG_467 go_ mq0_ kq0_ rfl hF_481
                          have mxE_479 : E_479 ≤ 1202 := by have h9 := cF_le g ma0_ ka0_; have h8 : cF _ _ = _ := hE_482; omega
                          have hx_491 := exN.tr exN.rf hX_483
                          have hv_492 := exN.var hX_483 hv_456
                          have hd_493 := nmd_ex hX_483 hd_324
                          have hck_494 : cr_470 ≤ K_ := by omega
                          have b_495 : bd 0 2499 r_470 := ⟨hv_485.1, (by have h9 := hv_485.2.1; omega)⟩
                          have g := g.more hF_476
                          have h9c : cF fr_470 a0_ = _ := hE_482
                          subst hQ
                          exact iretX (v := r_470) hx hb hr (fun t ht hW => g_retZ g hK ⟨_, rfl, ⟨⟨_, hV_480, hF_490, hx_491, hw_484, hv_485, ⟨Or.inl hP_486, fun _ => hP_486⟩, (by omega), (by omega), (by omega)⟩, x_474, h_475, (g.fcts [0, 1] rfl)⟩⟩ ht hW) g.2.2.1.2.2 dX14_readName_316 hlocks
                    · have fc_457 := neq_f c_457
                      have b_496 : bd 1 1 x2_ := neX fc_457 bx2_ kb_0 (by decide)
                      refine lv_iload hx hb dX14_readName_290 (lv_at hl 0 rfl) ?_
                      refine lv_sipush (v := 1000) hx hb dX14_readName_292 (by decide) ?_
                      have kb_1000 : bd 1000 1000 (1000 : Int32) := ⟨by decide, by decide⟩
                      refine lv_icmp_ge (tgt := 302) hx hb dX14_readName_295 (by decide) (fun c_497 => ?_) (fun c_497 => ?_)
                      · have fc_497 := le_f c_497
                        refine lv_iconst (v := 0) hx hb dX14_readName_302 (by decide) ?_
                        refine lv_iconst (v := 5) hx hb dX14_readName_303 (by decide) ?_
                        refine lv_iload_n hx hb dX14_readName_304 rfl (lv_at hl 5 rfl) ?_
                        have go_ := g
                        refine g_callEv (As := [.int 0, .int 5, .int x_2]) (rest := []) ⟨hx, hb, hml, hown, hts⟩ (r_X14_need_2 l dC dI L kd tys fr_317 H.size g.2.2.2.1 a0_ ma0_ ka0_ 0 kb_0 5 x_2) (cwV 3 hts (gV_ t_2403 t_2405 t_100 t_198 t_2406) rfl rfl rfl (by decide +kernel) ⟨(show 1 + 1 ≤ N + 1 + 24 by omega), (show 8 + (4 + 11) + 22 ≤ 60 * (N + 1) + 700 by omega)⟩) (pre3V g hK ma0_ ka0_ (by decide) (q := (RX14, TX14, 67)) rfl) rfl hl.1 rfl (lv_room (Nat.le_of_ble_eq_true rfl)) dX14_readName_305 (cl_f hck_0) g hK (by decide) (by decide) (fx' := [(12, 58, q0_, .int y_308), (14, 10, a0_, .int x_8), (14, 2, a0_, .ref q0_), (14, 16, a0_, .int o_), (14, 25, a0_, .int op_)]) rfl (fun xr_498 fr_498 H locs mxr_498 kxr_498 hp hMr_498 g => ?_) (fun fr_498 H locs hp hMr_498 g => ?_)
                        · have hG_499 := isN.frame hMr_498 go_.2.2.2.1 ma0_ ka0_ (by decide) (by decide) hG_319
                          have hG_500 := cEq.frame hMr_498 go_.2.2.2.1 ma0_ ka0_ (by decide) (by decide) hG_320
                          have hG_501 := isV.frame hMr_498 go_.2.2.2.1 mq0_ kq0_ (by decide) (by decide) hG_321
                          have hG_502 := FR.frame hMr_498 go_.2.2.2.1 mq0_ kq0_ (by decide) (by decide) hG_322
                          subst hQ
                          exact leavesX hempty hlocks (fun t ht hW => g_thrZ g hK mxr_498 kxr_498 ⟨hG_502, (by omega)⟩ ht hW) g.2.2.1.2.2
                        · exact hp.elim
                      · have fc_497 := nle_f c_497
                        have b_503 : bd 2000 999 r_317 := ltL fc_497 b_455 kb_1000 (by decide)
                        exact bd_no b_503 (by decide)
    refine lv_aload_n hx hb dX14_readName_47 rfl (lv_at hl 5 rfl) ?_
    refine lv_iload hx hb dX14_readName_48 (lv_at hl 0 rfl) ?_
    refine lv_if_eq (tgt := 71) hx hb dX14_readName_50 (by decide) (fun c_ => ?_) (fun c_ => absurd (by decide) c_)
    refine lv_aload_n hx hb dX14_readName_71 rfl (lv_at hl 5 rfl) ?_
    refine lv_lload hx hb dX14_readName_72 (lv_at hl 3 rfl) ?_
    refine lv_lload hx hb dX14_readName_74 (lv_at hl 2 rfl) ?_
    have go_ := g
    refine g_calli (va_runV (As := [.long x_3, .long x_4]) (rest := [.ref a0_]) ⟨hx, hb, hml, hown, hts⟩ (r_X14_named_2 l dC dI L kd tys fr_15 H.size g.2.2.2.1 a0_ ma0_ ka0_ x_3 x_4 q0_ mq0_ kq0_ o_ bo_ V_ N_ hG_23 hG_21 (g.fcts [1, 2] rfl)) (cwV 2 hts (gV_ t_2504 t_2506 t_122 t_198 t_2507) rfl rfl rfl (by decide +kernel) ⟨(show 1 + 1 ≤ N + 1 + 24 by omega), (show 8 + (6 + 11) + 26 ≤ 60 * (N + 1) + 700 by omega)⟩) (pre3V g hK ma0_ ka0_ (by decide) (q := (RX14, TX14, 67)) rfl) rfl rfl hl.1 rfl (lv_room (Nat.le_of_ble_eq_true rfl)) dX14_readName_76 (cl_f hck_0)) g hK (by decide) (by decide) (fx' := [(14, 10, a0_, .int x_8), (14, 2, a0_, .ref q0_), (14, 16, a0_, .int o_), (14, 25, a0_, .int op_)]) rfl (fun r_504 fr_504 H locs hp hMr_504 g => ?_)
    obtain ⟨hx_505, -⟩ := hp
    have hG_506 := isV.frame hMr_504 go_.2.2.2.1 mq0_ kq0_ (by decide) (by decide) hG_21
    have hG_507 := FR.frame hMr_504 go_.2.2.2.1 mq0_ kq0_ (by decide) (by decide) hG_22
    have hG_508 := isN.frame hMr_504 go_.2.2.2.1 ma0_ ka0_ (by decide) (by decide) hG_23
    have hG_509 := cEq.frame hMr_504 go_.2.2.2.1 ma0_ ka0_ (by decide) (by decide) hG_24
    rcases hx_505 with ⟨h_510, hd_511⟩ | ⟨h_510 | h_510 | h_510, hd_511⟩
    · obtain rfl : r_504 = (-1) := Int32.toInt_inj.mp (h_510.trans (by decide))
      refine lv_iconst (v := (-1)) hx hb dX14_readName_79 (by decide) ?_
      refine lv_icmp_eq (tgt := 87) hx hb dX14_readName_80 (by decide) (fun c_ => ?_) (fun c_ => absurd (by decide) c_)
      refine lv_iconst (v := 0) hx hb dX14_readName_87 (by decide) ?_
      refine lv_iconst (v := 2) hx hb dX14_readName_88 (by decide) ?_
      refine lv_iload_n hx hb dX14_readName_89 rfl (lv_at hl 4 rfl) ?_
      have kb_0 : bd 0 0 (0 : Int32) := ⟨by decide, by decide⟩
      have go_ := g
      refine g_callEv (As := [.int 0, .int 2, .int x_2]) (rest := []) ⟨hx, hb, hml, hown, hts⟩ (r_X14_need_2 l dC dI L kd tys fr_504 H.size g.2.2.2.1 a0_ ma0_ ka0_ 0 kb_0 2 x_2) (cwV 3 hts (gV_ t_2403 t_2405 t_100 t_198 t_2406) rfl rfl rfl (by decide +kernel) ⟨(show 1 + 1 ≤ N + 1 + 24 by omega), (show 8 + (4 + 11) + 22 ≤ 60 * (N + 1) + 700 by omega)⟩) (pre3V g hK ma0_ ka0_ (by decide) (q := (RX14, TX14, 67)) rfl) rfl hl.1 rfl (lv_room (Nat.le_of_ble_eq_true rfl)) dX14_readName_90 (cl_f hck_0) g hK (by decide) (by decide) (fx' := [(14, 10, a0_, .int x_8), (14, 2, a0_, .ref q0_), (14, 16, a0_, .int o_), (14, 25, a0_, .int op_)]) rfl (fun xr_512 fr_512 H locs mxr_512 kxr_512 hp hMr_512 g => ?_) (fun fr_512 H locs hp hMr_512 g => ?_)
      · have hG_513 := isV.frame hMr_512 go_.2.2.2.1 mq0_ kq0_ (by decide) (by decide) hG_506
        have hG_514 := FR.frame hMr_512 go_.2.2.2.1 mq0_ kq0_ (by decide) (by decide) hG_507
        have hG_515 := isN.frame hMr_512 go_.2.2.2.1 ma0_ ka0_ (by decide) (by decide) hG_508
        have hG_516 := cEq.frame hMr_512 go_.2.2.2.1 ma0_ ka0_ (by decide) (by decide) hG_509
        subst hQ
        exact leavesX hempty hlocks (fun t ht hW => g_thrZ g hK mxr_512 kxr_512 ⟨hG_514, (by omega)⟩ ht hW) g.2.2.1.2.2
      · exact hp.elim
    · have b_517 : bd 0 9 r_504 := ⟨h_510.1, h_510.2.1⟩
      have hv_518 : varOK V_ r_504 o_.toNatClampNeg := Or.inl h_510
      refine lv_iconst (v := (-1)) hx hb dX14_readName_79 (by decide) ?_
      have kb_m1 : bd (-1) (-1) ((-1) : Int32) := ⟨by decide, by decide⟩
      refine lv_icmp_eq (tgt := 87) hx hb dX14_readName_80 (by decide) (fun c_519 => ?_) (fun c_519 => ?_)
      · have fc_519 := eq_f c_519
        have b_520 : bd 0 (-1) r_504 := eqX fc_519 b_517 kb_m1 (by decide)
        exact bd_no b_520 (by decide)
      · have fc_519 := neq_f c_519
        refine lv_iconst (v := 1) hx hb dX14_readName_83 (by decide) ?_
        refine lv_goto (tgt := 88) hx hb dX14_readName_84 (by decide) ?_
        refine lv_iconst (v := 2) hx hb dX14_readName_88 (by decide) ?_
        refine lv_iload_n hx hb dX14_readName_89 rfl (lv_at hl 4 rfl) ?_
        have kb_1 : bd 1 1 (1 : Int32) := ⟨by decide, by decide⟩
        have go_ := g
        refine g_callEv (As := [.int 1, .int 2, .int x_2]) (rest := []) ⟨hx, hb, hml, hown, hts⟩ (r_X14_need_3 l dC dI L kd tys fr_504 H.size g.2.2.2.1 a0_ ma0_ ka0_ 1 kb_1 2 x_2) (cwV 3 hts (gV_ t_2403 t_2405 t_100 t_198 t_2406) rfl rfl rfl (by decide +kernel) ⟨(show 0 + 1 ≤ N + 1 + 24 by omega), (show 8 + (4 + 11) + 0 ≤ 60 * (N + 1) + 700 by omega)⟩) (pre3V g hK ma0_ ka0_ (by decide) (q := (RX14, TX14, 67)) rfl) rfl hl.1 rfl (lv_room (Nat.le_of_ble_eq_true rfl)) dX14_readName_90 (cl_f hck_0) g hK (by decide) (by decide) (fx' := [(14, 10, a0_, .int x_8), (14, 2, a0_, .ref q0_), (14, 16, a0_, .int o_), (14, 25, a0_, .int op_)]) rfl (fun xr_521 fr_521 H locs mxr_521 kxr_521 hp hMr_521 g => ?_) (fun fr_521 H locs hp hMr_521 g => ?_)
        · have hG_522 := isV.frame hMr_521 go_.2.2.2.1 mq0_ kq0_ (by decide) (by decide) hG_506
          have hG_523 := FR.frame hMr_521 go_.2.2.2.1 mq0_ kq0_ (by decide) (by decide) hG_507
          have hG_524 := isN.frame hMr_521 go_.2.2.2.1 ma0_ ka0_ (by decide) (by decide) hG_508
          have hG_525 := cEq.frame hMr_521 go_.2.2.2.1 ma0_ ka0_ (by decide) (by decide) hG_509
          exact hp.elim
        · have hG_526 := isV.frame hMr_521 go_.2.2.2.1 mq0_ kq0_ (by decide) (by decide) hG_506
          have hG_527 := FR.frame hMr_521 go_.2.2.2.1 mq0_ kq0_ (by decide) (by decide) hG_507
          have hG_528 := isN.frame hMr_521 go_.2.2.2.1 ma0_ ka0_ (by decide) (by decide) hG_508
          have hG_529 := cEq.frame hMr_521 go_.2.2.2.1 ma0_ ka0_ (by decide) (by decide) hG_509
          have hl9 := lv_sub hl [0, 1, 2, 3, 4, 5, 6, 7] (by rfl : lv_pick [(9, .int 0), (8, .int t_), (6, .long x_4), (4, .long x_3), (3, .int x_2), (0, .ref a0_), (1, .int x1_), (2, .int x2_)] [0, 1, 2, 3, 4, 5, 6, 7] = [(9, .int 0), (8, .int t_), (6, .long x_4), (4, .long x_3), (3, .int x_2), (0, .ref a0_), (1, .int x1_), (2, .int x2_)])
          have g9 := g.sub (fx' := [(14, 10, a0_, .int x_8), (14, 2, a0_, .ref q0_), (14, 16, a0_, .int o_), (14, 25, a0_, .int op_)]) [0, 1, 2, 3] rfl
          exact join_25  _ _ _ _  g9 hG_526 hG_527 hG_528 hG_529 hd_511 hl9
    · have b_530 : bd 1000 1002 r_504 := ⟨h_510.1, h_510.2⟩
      have hv_531 : varOK V_ r_504 o_.toNatClampNeg := Or.inr (Or.inl h_510)
      refine lv_iconst (v := (-1)) hx hb dX14_readName_79 (by decide) ?_
      have kb_m1 : bd (-1) (-1) ((-1) : Int32) := ⟨by decide, by decide⟩
      refine lv_icmp_eq (tgt := 87) hx hb dX14_readName_80 (by decide) (fun c_532 => ?_) (fun c_532 => ?_)
      · have fc_532 := eq_f c_532
        have b_533 : bd 1000 (-1) r_504 := eqX fc_532 b_530 kb_m1 (by decide)
        exact bd_no b_533 (by decide)
      · have fc_532 := neq_f c_532
        refine lv_iconst (v := 1) hx hb dX14_readName_83 (by decide) ?_
        refine lv_goto (tgt := 88) hx hb dX14_readName_84 (by decide) ?_
        refine lv_iconst (v := 2) hx hb dX14_readName_88 (by decide) ?_
        refine lv_iload_n hx hb dX14_readName_89 rfl (lv_at hl 4 rfl) ?_
        have kb_1 : bd 1 1 (1 : Int32) := ⟨by decide, by decide⟩
        have go_ := g
        refine g_callEv (As := [.int 1, .int 2, .int x_2]) (rest := []) ⟨hx, hb, hml, hown, hts⟩ (r_X14_need_3 l dC dI L kd tys fr_504 H.size g.2.2.2.1 a0_ ma0_ ka0_ 1 kb_1 2 x_2) (cwV 3 hts (gV_ t_2403 t_2405 t_100 t_198 t_2406) rfl rfl rfl (by decide +kernel) ⟨(show 0 + 1 ≤ N + 1 + 24 by omega), (show 8 + (4 + 11) + 0 ≤ 60 * (N + 1) + 700 by omega)⟩) (pre3V g hK ma0_ ka0_ (by decide) (q := (RX14, TX14, 67)) rfl) rfl hl.1 rfl (lv_room (Nat.le_of_ble_eq_true rfl)) dX14_readName_90 (cl_f hck_0) g hK (by decide) (by decide) (fx' := [(14, 10, a0_, .int x_8), (14, 2, a0_, .ref q0_), (14, 16, a0_, .int o_), (14, 25, a0_, .int op_)]) rfl (fun xr_534 fr_534 H locs mxr_534 kxr_534 hp hMr_534 g => ?_) (fun fr_534 H locs hp hMr_534 g => ?_)
        · have hG_535 := isV.frame hMr_534 go_.2.2.2.1 mq0_ kq0_ (by decide) (by decide) hG_506
          have hG_536 := FR.frame hMr_534 go_.2.2.2.1 mq0_ kq0_ (by decide) (by decide) hG_507
          have hG_537 := isN.frame hMr_534 go_.2.2.2.1 ma0_ ka0_ (by decide) (by decide) hG_508
          have hG_538 := cEq.frame hMr_534 go_.2.2.2.1 ma0_ ka0_ (by decide) (by decide) hG_509
          exact hp.elim
        · have hG_539 := isV.frame hMr_534 go_.2.2.2.1 mq0_ kq0_ (by decide) (by decide) hG_506
          have hG_540 := FR.frame hMr_534 go_.2.2.2.1 mq0_ kq0_ (by decide) (by decide) hG_507
          have hG_541 := isN.frame hMr_534 go_.2.2.2.1 ma0_ ka0_ (by decide) (by decide) hG_508
          have hG_542 := cEq.frame hMr_534 go_.2.2.2.1 ma0_ ka0_ (by decide) (by decide) hG_509
          have hl9 := lv_sub hl [0, 1, 2, 3, 4, 5, 6, 7] (by rfl : lv_pick [(9, .int 0), (8, .int t_), (6, .long x_4), (4, .long x_3), (3, .int x_2), (0, .ref a0_), (1, .int x1_), (2, .int x2_)] [0, 1, 2, 3, 4, 5, 6, 7] = [(9, .int 0), (8, .int t_), (6, .long x_4), (4, .long x_3), (3, .int x_2), (0, .ref a0_), (1, .int x1_), (2, .int x2_)])
          have g9 := g.sub (fx' := [(14, 10, a0_, .int x_8), (14, 2, a0_, .ref q0_), (14, 16, a0_, .int o_), (14, 25, a0_, .int op_)]) [0, 1, 2, 3] rfl
          exact join_25  _ _ _ _  g9 hG_539 hG_540 hG_541 hG_542 hd_511 hl9
    · have b_543 : bd 2000 2007 r_504 := ⟨h_510.1, h_510.2⟩
      have hv_544 : varOK V_ r_504 o_.toNatClampNeg := Or.inr (Or.inr h_510)
      refine lv_iconst (v := (-1)) hx hb dX14_readName_79 (by decide) ?_
      have kb_m1 : bd (-1) (-1) ((-1) : Int32) := ⟨by decide, by decide⟩
      refine lv_icmp_eq (tgt := 87) hx hb dX14_readName_80 (by decide) (fun c_545 => ?_) (fun c_545 => ?_)
      · have fc_545 := eq_f c_545
        have b_546 : bd 2000 (-1) r_504 := eqX fc_545 b_543 kb_m1 (by decide)
        exact bd_no b_546 (by decide)
      · have fc_545 := neq_f c_545
        refine lv_iconst (v := 1) hx hb dX14_readName_83 (by decide) ?_
        refine lv_goto (tgt := 88) hx hb dX14_readName_84 (by decide) ?_
        refine lv_iconst (v := 2) hx hb dX14_readName_88 (by decide) ?_
        refine lv_iload_n hx hb dX14_readName_89 rfl (lv_at hl 4 rfl) ?_
        have kb_1 : bd 1 1 (1 : Int32) := ⟨by decide, by decide⟩
        have go_ := g
        refine g_callEv (As := [.int 1, .int 2, .int x_2]) (rest := []) ⟨hx, hb, hml, hown, hts⟩ (r_X14_need_3 l dC dI L kd tys fr_504 H.size g.2.2.2.1 a0_ ma0_ ka0_ 1 kb_1 2 x_2) (cwV 3 hts (gV_ t_2403 t_2405 t_100 t_198 t_2406) rfl rfl rfl (by decide +kernel) ⟨(show 0 + 1 ≤ N + 1 + 24 by omega), (show 8 + (4 + 11) + 0 ≤ 60 * (N + 1) + 700 by omega)⟩) (pre3V g hK ma0_ ka0_ (by decide) (q := (RX14, TX14, 67)) rfl) rfl hl.1 rfl (lv_room (Nat.le_of_ble_eq_true rfl)) dX14_readName_90 (cl_f hck_0) g hK (by decide) (by decide) (fx' := [(14, 10, a0_, .int x_8), (14, 2, a0_, .ref q0_), (14, 16, a0_, .int o_), (14, 25, a0_, .int op_)]) rfl (fun xr_547 fr_547 H locs mxr_547 kxr_547 hp hMr_547 g => ?_) (fun fr_547 H locs hp hMr_547 g => ?_)
        · have hG_548 := isV.frame hMr_547 go_.2.2.2.1 mq0_ kq0_ (by decide) (by decide) hG_506
          have hG_549 := FR.frame hMr_547 go_.2.2.2.1 mq0_ kq0_ (by decide) (by decide) hG_507
          have hG_550 := isN.frame hMr_547 go_.2.2.2.1 ma0_ ka0_ (by decide) (by decide) hG_508
          have hG_551 := cEq.frame hMr_547 go_.2.2.2.1 ma0_ ka0_ (by decide) (by decide) hG_509
          exact hp.elim
        · have hG_552 := isV.frame hMr_547 go_.2.2.2.1 mq0_ kq0_ (by decide) (by decide) hG_506
          have hG_553 := FR.frame hMr_547 go_.2.2.2.1 mq0_ kq0_ (by decide) (by decide) hG_507
          have hG_554 := isN.frame hMr_547 go_.2.2.2.1 ma0_ ka0_ (by decide) (by decide) hG_508
          have hG_555 := cEq.frame hMr_547 go_.2.2.2.1 ma0_ ka0_ (by decide) (by decide) hG_509
          have hl9 := lv_sub hl [0, 1, 2, 3, 4, 5, 6, 7] (by rfl : lv_pick [(9, .int 0), (8, .int t_), (6, .long x_4), (4, .long x_3), (3, .int x_2), (0, .ref a0_), (1, .int x1_), (2, .int x2_)] [0, 1, 2, 3, 4, 5, 6, 7] = [(9, .int 0), (8, .int t_), (6, .long x_4), (4, .long x_3), (3, .int x_2), (0, .ref a0_), (1, .int x1_), (2, .int x2_)])
          have g9 := g.sub (fx' := [(14, 10, a0_, .int x_8), (14, 2, a0_, .ref q0_), (14, 16, a0_, .int o_), (14, 25, a0_, .int op_)]) [0, 1, 2, 3] rfl
          exact join_25  _ _ _ _  g9 hG_552 hG_553 hG_554 hG_555 hd_511 hl9
  · have hG_556 := isV.frame hMr_15 go_.2.2.2.1 mq0_ kq0_ (by decide) (by decide) hG_11
    have hG_557 := FR.frame hMr_15 go_.2.2.2.1 mq0_ kq0_ (by decide) (by decide) hG_12
    have hG_558 := isN.frame hMr_15 go_.2.2.2.1 ma0_ ka0_ (by decide) (by decide) hG_13
    have hG_559 := cEq.frame hMr_15 go_.2.2.2.1 ma0_ ka0_ (by decide) (by decide) hE_14
    obtain rfl : r_15 = 1 := h_17
    have g := g.more hF_20
    refine lv_if_eq (tgt := 44) hx hb dX14_readName_33 (by decide) (fun c_ => absurd c_ (by decide)) (fun c_ => ?_)
    refine lv_iload_n hx hb dX14_readName_36 rfl (lv_at hl 6 rfl) ?_
    have kb_0 : bd 0 0 (0 : Int32) := ⟨by decide, by decide⟩
    refine lv_if_ne (tgt := 44) hx hb dX14_readName_37 (by decide) (fun c_560 => ?_) (fun c_560 => ?_)
    · have fc_560 := neq_f c_560
      have b_561 : bd 1 1 x2_ := neX fc_560 bx2_ kb_0 (by decide)
      refine lv_iconst (v := 0) hx hb dX14_readName_44 (by decide) ?_
      refine lv_istore (lv' := [(9, .int 0), (8, .int t_), (6, .long x_4), (4, .long x_3), (3, .int x_2), (0, .ref a0_), (1, .int x1_), (2, .int x2_)]) hx hb dX14_readName_45 hl (by decide) rfl (fun ls hl => ?_)
      have join_562 : ∀ (f : Nat → va_E) (H : Heap) (locs : List Loc) (ls : Array Slot), G3 (dC, dI) L kd tys s f0 [(12, 57), (12, 58), (14, 6), (14, 7), (14, 8), (14, 9), (14, 10), (14, 11), (14, 12), (14, 13), (14, 14), (14, 15), (14, 25)] [180, 201, 202, 203, 204, 205, 206, 207, 208, 209, 210] f H locs [(14, 6, a0_, .int x_18), (14, 10, a0_, .int x_8), (14, 2, a0_, .ref q0_), (14, 16, a0_, .int o_), (14, 25, a0_, .int op_)] → isV f q0_ V_ → FR L kd f0 f q0_ → isN f a0_ N_ → cEq f a0_ E_14 → (nmd N_ V_ o_.toNatClampNeg x_3 x_4) → lv_has ls 11 [(9, .int 0), (8, .int t_), (6, .long x_4), (4, .long x_3), (3, .int x_2), (0, .ref a0_), (1, .int x1_), (2, .int x2_)] → W p l e ({ frames := (N + 1) + 24, cells := K_, slots := 3 * K_, locals := 60 * (N + 1) + 700 } : Room) s m [.ref a0_, .int x1_, .int x2_].toArray below meth c H locs cl_0 (3 * cl_0) Q (F0 m 93 ls []) := by
        intro  f H locs ls  g hJ93_V_q0_ hJ93_F_q0_ hJ93_N_a0_ hJ93_C_a0_ hd93 hl
        refine lv_aload_n hx hb dX14_readName_93 rfl (lv_at hl 5 rfl) ?_
        refine lv_iload_n hx hb dX14_readName_94 rfl (lv_at hl 6 rfl) ?_
        refine lv_if_eq (tgt := 119) hx hb dX14_readName_95 (by decide) (fun c_563 => ?_) (fun c_563 => ?_)
        · have fc_563 := eq_f c_563
          have b_564 : bd 0 0 x1_ := eqX fc_563 bx1_ kb_0 (by decide)
          refine lv_aload_n hx hb dX14_readName_119 rfl (lv_at hl 5 rfl) ?_
          refine g_getk (C := RX14) (T := TX14) (N := 67) hx hb hts (mc_ inX14) hown hK g rfl 2 (by decide) rfl (hts _ (List.mem_cons_of_mem _ t_2148)) (fun _ h9 => h9) 2 rfl dX14_readName_120 ?_
          refine g_getr (K := 180) (C := RX12) (T := TX12) (N := 60) hx hb hts (mc_ inX12) hown hK g mq0_ kq0_ (by decide) rfl 24 (by decide) rfl (hts _ (List.mem_cons_of_mem _ t_1954)) (fun _ h9 => h9) rfl dX14_readName_123 (fun a_565 ma_565 ka_565 g => ?_)
          refine lv_aload_n hx hb dX14_readName_126 rfl (lv_at hl 5 rfl) ?_
          refine g_geti (C := RX14) (T := TX14) (N := 67) hx hb hts (mc_ inX14) hown hK g ma0_ ka0_ (by decide) rfl 17 (by decide) rfl (hts _ (List.mem_cons_of_mem _ t_2163)) (fun _ h9 => h9) rfl dX14_readName_127 (fun x_566 bx_566 g => ?_)
          refine g_iald hx hb hK g ma_565 ka_565 (by decide) rfl (in_bd bx_566 (by decide)) dX14_readName_130 (fun x_567 bx_567 cx_567 => ?_)
          have vx_567 : x_567 = V_.i 24 x_566.toNatClampNeg := hJ93_V_q0_.at g 1 rfl rfl cx_567
          refine lv_bipush (v := 40) hx hb dX14_readName_131 (by decide) ?_
          have kb_40 : bd 40 40 (40 : Int32) := ⟨by decide, by decide⟩
          refine lv_icmp_ge (tgt := 140) hx hb dX14_readName_133 (by decide) (fun c_568 => ?_) (fun c_568 => ?_)
          · have fc_568 := le_f c_568
            have b_569 : bd 40 40 x_567 := leR fc_568 kb_40 bx_567 (by decide)
            refine lv_iconst (v := 0) hx hb dX14_readName_140 (by decide) ?_
            refine lv_iconst (v := 4) hx hb dX14_readName_141 (by decide) ?_
            refine lv_iload_n hx hb dX14_readName_142 rfl (lv_at hl 4 rfl) ?_
            have hs_570 := sE_1 g 2 rfl (by have h9_0 := bo_; unfold bd at h9_0; have h9_1 := bop_; unfold bd at h9_1; have h9_2 := bso_; unfold bd at h9_2; have h9_3 := bt_; unfold bd at h9_3; have h9_4 := b_564; unfold bd at h9_4; have h9_5 := b_561; unfold bd at h9_5; have h9_6 := h_19; unfold bd at h9_6; have h9_7 := bx_2; unfold bd at h9_7; have h9_8 := bx_566; unfold bd at h9_8; have h9_9 := b_569; unfold bd at h9_9; have h9_10 := h_9; unfold bd at h9_10; have h8_0 := kb_0; unfold bd at h8_0; have h8_1 := kb_40; unfold bd at h8_1; omega)
            have go_ := g
            refine g_callEv (As := [.int 0, .int 4, .int x_2]) (rest := []) ⟨hx, hb, hml, hown, hts⟩ (r_X14_need_2 l dC dI L kd tys f H.size g.2.2.2.1 a0_ ma0_ ka0_ 0 kb_0 4 x_2) (cwV 3 hts (gV_ t_2403 t_2405 t_100 t_198 t_2406) rfl rfl rfl (by decide +kernel) ⟨(show 1 + 1 ≤ N + 1 + 24 by omega), (show 8 + (4 + 11) + 22 ≤ 60 * (N + 1) + 700 by omega)⟩) (pre3V g hK ma0_ ka0_ (by decide) (q := (RX14, TX14, 67)) rfl) rfl hl.1 rfl (lv_room (Nat.le_of_ble_eq_true rfl)) dX14_readName_143 (cl_f hck_0) g hK (by decide) (by decide) (fx' := [(14, 17, a0_, .int x_566), (12, 24, q0_, .ref a_565), (14, 6, a0_, .int x_18), (14, 10, a0_, .int x_8), (14, 2, a0_, .ref q0_), (14, 16, a0_, .int o_), (14, 25, a0_, .int op_)]) rfl (fun xr_571 fr_571 H locs mxr_571 kxr_571 hp hMr_571 g => ?_) (fun fr_571 H locs hp hMr_571 g => ?_)
            · have hG_572 := isV.frame hMr_571 go_.2.2.2.1 mq0_ kq0_ (by decide) (by decide) hJ93_V_q0_
              have hG_573 := FR.frame hMr_571 go_.2.2.2.1 mq0_ kq0_ (by decide) (by decide) hJ93_F_q0_
              have hG_574 := isN.frame hMr_571 go_.2.2.2.1 ma0_ ka0_ (by decide) (by decide) hJ93_N_a0_
              have hG_575 := cEq.frame hMr_571 go_.2.2.2.1 ma0_ ka0_ (by decide) (by decide) hJ93_C_a0_
              subst hQ
              exact leavesX hempty hlocks (fun t ht hW => g_thrZ g hK mxr_571 kxr_571 ⟨hG_573, (by omega)⟩ ht hW) g.2.2.1.2.2
            · exact hp.elim
          · have fc_568 := nle_f c_568
            have b_576 : bd 0 39 x_567 := ltL fc_568 bx_567 kb_40 (by decide)
            refine lv_iconst (v := 1) hx hb dX14_readName_136 (by decide) ?_
            refine lv_goto (tgt := 141) hx hb dX14_readName_137 (by decide) ?_
            refine lv_iconst (v := 4) hx hb dX14_readName_141 (by decide) ?_
            refine lv_iload_n hx hb dX14_readName_142 rfl (lv_at hl 4 rfl) ?_
            have hs_577 := sE_1 g 2 rfl (by have h9_0 := bo_; unfold bd at h9_0; have h9_1 := bop_; unfold bd at h9_1; have h9_2 := bso_; unfold bd at h9_2; have h9_3 := bt_; unfold bd at h9_3; have h9_4 := b_564; unfold bd at h9_4; have h9_5 := b_561; unfold bd at h9_5; have h9_6 := h_19; unfold bd at h9_6; have h9_7 := bx_2; unfold bd at h9_7; have h9_8 := bx_566; unfold bd at h9_8; have h9_9 := b_576; unfold bd at h9_9; have h9_10 := h_9; unfold bd at h9_10; have h8_0 := kb_0; unfold bd at h8_0; have h8_1 := kb_40; unfold bd at h8_1; omega)
            have kb_1 : bd 1 1 (1 : Int32) := ⟨by decide, by decide⟩
            have go_ := g
            refine g_callEv (As := [.int 1, .int 4, .int x_2]) (rest := []) ⟨hx, hb, hml, hown, hts⟩ (r_X14_need_3 l dC dI L kd tys f H.size g.2.2.2.1 a0_ ma0_ ka0_ 1 kb_1 4 x_2) (cwV 3 hts (gV_ t_2403 t_2405 t_100 t_198 t_2406) rfl rfl rfl (by decide +kernel) ⟨(show 0 + 1 ≤ N + 1 + 24 by omega), (show 8 + (4 + 11) + 0 ≤ 60 * (N + 1) + 700 by omega)⟩) (pre3V g hK ma0_ ka0_ (by decide) (q := (RX14, TX14, 67)) rfl) rfl hl.1 rfl (lv_room (Nat.le_of_ble_eq_true rfl)) dX14_readName_143 (cl_f hck_0) g hK (by decide) (by decide) (fx' := [(14, 17, a0_, .int x_566), (12, 24, q0_, .ref a_565), (14, 6, a0_, .int x_18), (14, 10, a0_, .int x_8), (14, 2, a0_, .ref q0_), (14, 16, a0_, .int o_), (14, 25, a0_, .int op_)]) rfl (fun xr_578 fr_578 H locs mxr_578 kxr_578 hp hMr_578 g => ?_) (fun fr_578 H locs hp hMr_578 g => ?_)
            · have hG_579 := isV.frame hMr_578 go_.2.2.2.1 mq0_ kq0_ (by decide) (by decide) hJ93_V_q0_
              have hG_580 := FR.frame hMr_578 go_.2.2.2.1 mq0_ kq0_ (by decide) (by decide) hJ93_F_q0_
              have hG_581 := isN.frame hMr_578 go_.2.2.2.1 ma0_ ka0_ (by decide) (by decide) hJ93_N_a0_
              have hG_582 := cEq.frame hMr_578 go_.2.2.2.1 ma0_ ka0_ (by decide) (by decide) hJ93_C_a0_
              exact hp.elim
            · have hG_583 := isV.frame hMr_578 go_.2.2.2.1 mq0_ kq0_ (by decide) (by decide) hJ93_V_q0_
              have hG_584 := FR.frame hMr_578 go_.2.2.2.1 mq0_ kq0_ (by decide) (by decide) hJ93_F_q0_
              have hG_585 := isN.frame hMr_578 go_.2.2.2.1 ma0_ ka0_ (by decide) (by decide) hJ93_N_a0_
              have hG_586 := cEq.frame hMr_578 go_.2.2.2.1 ma0_ ka0_ (by decide) (by decide) hJ93_C_a0_
              refine lv_aload_n hx hb dX14_readName_146 rfl (lv_at hl 5 rfl) ?_
              refine lv_iload hx hb dX14_readName_147 (lv_at hl 1 rfl) ?_
              refine lv_sipush (v := 1200) hx hb dX14_readName_149 (by decide) ?_
              have kb_1200 : bd 1200 1200 (1200 : Int32) := ⟨by decide, by decide⟩
              refine lv_icmp_gt (tgt := 159) hx hb dX14_readName_152 (by decide) (fun c_587 => ?_) (fun c_587 => ?_)
              · have fc_587 := lt_f c_587
                have b_588 : bd 1201 1201 t_ := ltR fc_587 kb_1200 bt_ (by decide)
                refine lv_iconst (v := 0) hx hb dX14_readName_159 (by decide) ?_
                refine lv_iconst (v := 4) hx hb dX14_readName_160 (by decide) ?_
                refine lv_iload_n hx hb dX14_readName_161 rfl (lv_at hl 4 rfl) ?_
                have hs_589 := sE_1 g 2 rfl (by have h9_0 := bo_; unfold bd at h9_0; have h9_1 := bop_; unfold bd at h9_1; have h9_2 := bso_; unfold bd at h9_2; have h9_3 := b_588; unfold bd at h9_3; have h9_4 := b_564; unfold bd at h9_4; have h9_5 := b_561; unfold bd at h9_5; have h9_6 := h_19; unfold bd at h9_6; have h9_7 := bx_2; unfold bd at h9_7; have h9_8 := bx_566; unfold bd at h9_8; have h9_9 := b_576; unfold bd at h9_9; have h9_10 := h_9; unfold bd at h9_10; have h8_0 := kb_0; unfold bd at h8_0; have h8_1 := kb_1; unfold bd at h8_1; have h8_2 := kb_1200; unfold bd at h8_2; have h8_3 := kb_40; unfold bd at h8_3; omega)
                have go_ := g
                refine g_callEv (As := [.int 0, .int 4, .int x_2]) (rest := []) ⟨hx, hb, hml, hown, hts⟩ (r_X14_need_2 l dC dI L kd tys fr_578 H.size g.2.2.2.1 a0_ ma0_ ka0_ 0 kb_0 4 x_2) (cwV 3 hts (gV_ t_2403 t_2405 t_100 t_198 t_2406) rfl rfl rfl (by decide +kernel) ⟨(show 1 + 1 ≤ N + 1 + 24 by omega), (show 8 + (4 + 11) + 22 ≤ 60 * (N + 1) + 700 by omega)⟩) (pre3V g hK ma0_ ka0_ (by decide) (q := (RX14, TX14, 67)) rfl) rfl hl.1 rfl (lv_room (Nat.le_of_ble_eq_true rfl)) dX14_readName_162 (cl_f hck_0) g hK (by decide) (by decide) (fx' := [(14, 17, a0_, .int x_566), (12, 24, q0_, .ref a_565), (14, 6, a0_, .int x_18), (14, 10, a0_, .int x_8), (14, 2, a0_, .ref q0_), (14, 16, a0_, .int o_), (14, 25, a0_, .int op_)]) rfl (fun xr_590 fr_590 H locs mxr_590 kxr_590 hp hMr_590 g => ?_) (fun fr_590 H locs hp hMr_590 g => ?_)
                · have hG_591 := isV.frame hMr_590 go_.2.2.2.1 mq0_ kq0_ (by decide) (by decide) hG_583
                  have hG_592 := FR.frame hMr_590 go_.2.2.2.1 mq0_ kq0_ (by decide) (by decide) hG_584
                  have hG_593 := isN.frame hMr_590 go_.2.2.2.1 ma0_ ka0_ (by decide) (by decide) hG_585
                  have hG_594 := cEq.frame hMr_590 go_.2.2.2.1 ma0_ ka0_ (by decide) (by decide) hG_586
                  subst hQ
                  exact leavesX hempty hlocks (fun t ht hW => g_thrZ g hK mxr_590 kxr_590 ⟨hG_592, (by omega)⟩ ht hW) g.2.2.1.2.2
                · exact hp.elim
              · have fc_587 := nlt_f c_587
                have b_595 : bd 0 1200 t_ := leL fc_587 bt_ kb_1200 (by decide)
                refine lv_iconst (v := 1) hx hb dX14_readName_155 (by decide) ?_
                refine lv_goto (tgt := 160) hx hb dX14_readName_156 (by decide) ?_
                refine lv_iconst (v := 4) hx hb dX14_readName_160 (by decide) ?_
                refine lv_iload_n hx hb dX14_readName_161 rfl (lv_at hl 4 rfl) ?_
                have hs_596 := sE_1 g 2 rfl (by have h9_0 := bo_; unfold bd at h9_0; have h9_1 := bop_; unfold bd at h9_1; have h9_2 := bso_; unfold bd at h9_2; have h9_3 := b_595; unfold bd at h9_3; have h9_4 := b_564; unfold bd at h9_4; have h9_5 := b_561; unfold bd at h9_5; have h9_6 := h_19; unfold bd at h9_6; have h9_7 := bx_2; unfold bd at h9_7; have h9_8 := bx_566; unfold bd at h9_8; have h9_9 := b_576; unfold bd at h9_9; have h9_10 := h_9; unfold bd at h9_10; have h8_0 := kb_0; unfold bd at h8_0; have h8_1 := kb_1; unfold bd at h8_1; have h8_2 := kb_1200; unfold bd at h8_2; have h8_3 := kb_40; unfold bd at h8_3; omega)
                have go_ := g
                refine g_callEv (As := [.int 1, .int 4, .int x_2]) (rest := []) ⟨hx, hb, hml, hown, hts⟩ (r_X14_need_3 l dC dI L kd tys fr_578 H.size g.2.2.2.1 a0_ ma0_ ka0_ 1 kb_1 4 x_2) (cwV 3 hts (gV_ t_2403 t_2405 t_100 t_198 t_2406) rfl rfl rfl (by decide +kernel) ⟨(show 0 + 1 ≤ N + 1 + 24 by omega), (show 8 + (4 + 11) + 0 ≤ 60 * (N + 1) + 700 by omega)⟩) (pre3V g hK ma0_ ka0_ (by decide) (q := (RX14, TX14, 67)) rfl) rfl hl.1 rfl (lv_room (Nat.le_of_ble_eq_true rfl)) dX14_readName_162 (cl_f hck_0) g hK (by decide) (by decide) (fx' := [(14, 17, a0_, .int x_566), (12, 24, q0_, .ref a_565), (14, 6, a0_, .int x_18), (14, 10, a0_, .int x_8), (14, 2, a0_, .ref q0_), (14, 16, a0_, .int o_), (14, 25, a0_, .int op_)]) rfl (fun xr_597 fr_597 H locs mxr_597 kxr_597 hp hMr_597 g => ?_) (fun fr_597 H locs hp hMr_597 g => ?_)
                · have hG_598 := isV.frame hMr_597 go_.2.2.2.1 mq0_ kq0_ (by decide) (by decide) hG_583
                  have hG_599 := FR.frame hMr_597 go_.2.2.2.1 mq0_ kq0_ (by decide) (by decide) hG_584
                  have hG_600 := isN.frame hMr_597 go_.2.2.2.1 ma0_ ka0_ (by decide) (by decide) hG_585
                  have hG_601 := cEq.frame hMr_597 go_.2.2.2.1 ma0_ ka0_ (by decide) (by decide) hG_586
                  exact hp.elim
                · have hG_602 := isV.frame hMr_597 go_.2.2.2.1 mq0_ kq0_ (by decide) (by decide) hG_583
                  have hG_603 := FR.frame hMr_597 go_.2.2.2.1 mq0_ kq0_ (by decide) (by decide) hG_584
                  have hG_604 := isN.frame hMr_597 go_.2.2.2.1 ma0_ ka0_ (by decide) (by decide) hG_585
                  have hG_605 := cEq.frame hMr_597 go_.2.2.2.1 ma0_ ka0_ (by decide) (by decide) hG_586
                  refine lv_iload_n hx hb dX14_readName_165 rfl (lv_at hl 6 rfl) ?_
                  refine lv_if_eq (tgt := 185) hx hb dX14_readName_166 (by decide) (fun c_606 => ?_) (fun c_606 => ?_)
                  · have fc_606 := eq_f c_606
                    refine lv_aload_n hx hb dX14_readName_185 rfl (lv_at hl 5 rfl) ?_
                    refine g_getk (C := RX14) (T := TX14) (N := 67) hx hb hts (mc_ inX14) hown hK g rfl 2 (by decide) rfl (hts _ (List.mem_cons_of_mem _ t_2148)) (fun _ h9 => h9) 4 rfl dX14_readName_186 ?_
                    refine g_getk (C := RX12) (T := TX12) (N := 60) hx hb hts (mc_ inX12) hown hK g rfl 24 (by decide) rfl (hts _ (List.mem_cons_of_mem _ t_1954)) (fun _ h9 => h9) 1 rfl dX14_readName_189 ?_
                    refine lv_aload_n hx hb dX14_readName_192 rfl (lv_at hl 5 rfl) ?_
                    refine g_getk (C := RX14) (T := TX14) (N := 67) hx hb hts (mc_ inX14) hown hK g rfl 17 (by decide) rfl (hts _ (List.mem_cons_of_mem _ t_2163)) (fun _ h9 => h9) 0 rfl dX14_readName_193 ?_
                    refine lv_dup2_11 hx hb dX14_readName_196 rfl rfl ?_
                    refine g_iald hx hb hK g ma_565 ka_565 (by decide) rfl (in_bd bx_566 (by decide)) dX14_readName_197 (fun x_607 bx_607 cx_607 => ?_)
                    obtain rfl : x_567 = x_607 := el_same cx_567 cx_607 ((arr_eq hMr_597 ma_565 ka_565 (by decide) rfl).trans (arr_eq hMr_578 ma_565 ka_565 (by decide) rfl))
                    refine lv_iconst (v := 1) hx hb dX14_readName_198 (by decide) ?_
                    refine lv_iadd hx hb dX14_readName_199 ?_
                    refine lv_topi (fun y_608 ey_608 => ?_)
                    have ty_608 := add_bd ey_608 b_576 kb_1 (by decide)
                    have b_609 : bd 1 40 y_608 := add_rg ty_608 b_576 kb_1 (by decide)
                    have gp_610 := g
                    have go_ := g
                    refine g_iastX hx hb hK g ma_565 ka_565 (by decide) rfl (in_bd bx_566 (by decide)) (bd_sub b_609 (by decide)) (by decide) dX14_readName_200 (fun f H locs hM_611 u_614 g => ?_)
                    have hG_612 := isN.frame hM_611 go_.2.2.2.1 ma0_ ka0_ (by decide) (by decide) hG_604
                    have hG_613 := cEq.frame hM_611 go_.2.2.2.1 ma0_ ka0_ (by decide) (by decide) hG_605
                    have hV_615 := isV.ui hG_602 gp_610 1 rfl mq0_ kq0_ rfl u_614
                    have hF_616 := FR.arr hG_603 gp_610 1 rfl mq0_ kq0_ rfl rfl u_614.1
                    obtain ⟨V_617, hV_618, hX_619, hw_620, hn_621⟩ : ∃ V1 : PV, isV f q0_ V1 ∧ exN V_ V1 ∧ wfN V1 (V1.n 57).toInt ∧ (V1.n 57).toInt = (V_.n 57).toInt := ⟨_, hV_615, u24_ok hwf⟩
                    have hx_622 := exN.tr exN.rf hX_619
                    have hd_623 := nmd_ex hX_619 hd93
                    refine lv_iload hx hb dX14_readName_201 (lv_at hl 0 rfl) ?_
                    refine lv_if_eq (tgt := 275) hx hb dX14_readName_203 (by decide) (fun c_ => ?_) (fun c_ => absurd (by decide) c_)
                    refine lv_aload_n hx hb dX14_readName_275 rfl (lv_at hl 5 rfl) ?_
                    refine lv_lload hx hb dX14_readName_276 (lv_at hl 3 rfl) ?_
                    refine lv_lload hx hb dX14_readName_278 (lv_at hl 2 rfl) ?_
                    have hs_624 := sE_1 g 2 rfl (by have h9_0 := bo_; unfold bd at h9_0; have h9_1 := bop_; unfold bd at h9_1; have h9_2 := bso_; unfold bd at h9_2; have h9_3 := b_595; unfold bd at h9_3; have h9_4 := b_564; unfold bd at h9_4; have h9_5 := b_561; unfold bd at h9_5; have h9_6 := h_19; unfold bd at h9_6; have h9_7 := bx_2; unfold bd at h9_7; have h9_8 := bx_566; unfold bd at h9_8; have h9_9 := b_576; unfold bd at h9_9; have h9_10 := bx_607; unfold bd at h9_10; have h9_11 := h_9; unfold bd at h9_11; have h9_12 := b_609; unfold bd at h9_12; have h8_0 := kb_0; unfold bd at h8_0; have h8_1 := kb_1; unfold bd at h8_1; have h8_2 := kb_1200; unfold bd at h8_2; have h8_3 := kb_40; unfold bd at h8_3; omega)
                    have go_ := g
                    refine g_calli (va_runV (As := [.long x_3, .long x_4]) (rest := []) ⟨hx, hb, hml, hown, hts⟩ (r_X14_named_2 l dC dI L kd tys f H.size g.2.2.2.1 a0_ ma0_ ka0_ x_3 x_4 q0_ mq0_ kq0_ o_ bo_ V_617 N_ hG_612 hV_618 (g.fcts [4, 5] rfl)) (cwV 2 hts (gV_ t_2504 t_2506 t_122 t_198 t_2507) rfl rfl rfl (by decide +kernel) ⟨(show 1 + 1 ≤ N + 1 + 24 by omega), (show 8 + (6 + 11) + 26 ≤ 60 * (N + 1) + 700 by omega)⟩) (pre3V g hK ma0_ ka0_ (by decide) (q := (RX14, TX14, 67)) rfl) rfl rfl hl.1 rfl (lv_room (Nat.le_of_ble_eq_true rfl)) dX14_readName_280 (cl_f hck_0)) g hK (by decide) (by decide) (fx' := [(14, 17, a0_, .int x_566), (12, 24, q0_, .ref a_565), (14, 6, a0_, .int x_18), (14, 10, a0_, .int x_8), (14, 2, a0_, .ref q0_), (14, 16, a0_, .int o_), (14, 25, a0_, .int op_)]) rfl (fun r_625 fr_625 H locs hp hMr_625 g => ?_)
                    obtain ⟨hx_626, -⟩ := hp
                    have hG_627 := isN.frame hMr_625 go_.2.2.2.1 ma0_ ka0_ (by decide) (by decide) hG_612
                    have hG_628 := cEq.frame hMr_625 go_.2.2.2.1 ma0_ ka0_ (by decide) (by decide) hG_613
                    have hG_629 := isV.frame hMr_625 go_.2.2.2.1 mq0_ kq0_ (by decide) (by decide) hV_618
                    have hG_630 := FR.frame hMr_625 go_.2.2.2.1 mq0_ kq0_ (by decide) (by decide) hF_616
                    rcases hx_626 with ⟨h_631, hd_632⟩ | ⟨h_631 | h_631 | h_631, hd_632⟩
                    · obtain rfl : r_625 = (-1) := Int32.toInt_inj.mp (h_631.trans (by decide))
                      exact absurd hd_623 hd_632
                    · have b_633 : bd 0 9 r_625 := ⟨h_631.1, h_631.2.1⟩
                      have hv_634 : varOK V_617 r_625 o_.toNatClampNeg := Or.inl h_631
                      refine lv_istore (lv' := [(10, .int r_625), (9, .int 0), (8, .int t_), (6, .long x_4), (4, .long x_3), (3, .int x_2), (0, .ref a0_), (1, .int x1_), (2, .int x2_)]) hx hb dX14_readName_283 hl (by decide) rfl (fun ls hl => ?_)
                      refine lv_aload_n hx hb dX14_readName_285 rfl (lv_at hl 6 rfl) ?_
                      refine lv_iload_n hx hb dX14_readName_286 rfl (lv_at hl 8 rfl) ?_
                      refine lv_if_eq (tgt := 298) hx hb dX14_readName_287 (by decide) (fun c_635 => ?_) (fun c_635 => ?_)
                      · have fc_635 := eq_f c_635
                        exact absurd fc_635 fc_560
                      · have fc_635 := neq_f c_635
                        refine lv_iload hx hb dX14_readName_290 (lv_at hl 0 rfl) ?_
                        refine lv_sipush (v := 1000) hx hb dX14_readName_292 (by decide) ?_
                        have kb_1000 : bd 1000 1000 (1000 : Int32) := ⟨by decide, by decide⟩
                        refine lv_icmp_ge (tgt := 302) hx hb dX14_readName_295 (by decide) (fun c_636 => ?_) (fun c_636 => ?_)
                        · have fc_636 := le_f c_636
                          have b_637 : bd 1000 9 (1000 : Int32) := leL fc_636 kb_1000 b_633 (by decide)
                          exact bd_no (eqX rfl b_637 kb_1000 (lo := 1000) (hi := 9) (by decide)) (by decide)
                        · have fc_636 := nle_f c_636
                          refine lv_iconst (v := 1) hx hb dX14_readName_298 (by decide) ?_
                          refine lv_goto (tgt := 303) hx hb dX14_readName_299 (by decide) ?_
                          refine lv_iconst (v := 5) hx hb dX14_readName_303 (by decide) ?_
                          refine lv_iload_n hx hb dX14_readName_304 rfl (lv_at hl 5 rfl) ?_
                          have hs_638 := sE_1 g 2 rfl (by have h9_0 := bo_; unfold bd at h9_0; have h9_1 := bop_; unfold bd at h9_1; have h9_2 := b_633; unfold bd at h9_2; have h9_3 := bso_; unfold bd at h9_3; have h9_4 := b_595; unfold bd at h9_4; have h9_5 := b_564; unfold bd at h9_5; have h9_6 := b_561; unfold bd at h9_6; have h9_7 := h_19; unfold bd at h9_7; have h9_8 := bx_2; unfold bd at h9_8; have h9_9 := bx_566; unfold bd at h9_9; have h9_10 := b_576; unfold bd at h9_10; have h9_11 := bx_607; unfold bd at h9_11; have h9_12 := h_9; unfold bd at h9_12; have h9_13 := b_609; unfold bd at h9_13; have h8_0 := kb_0; unfold bd at h8_0; have h8_1 := kb_1; unfold bd at h8_1; have h8_2 := kb_1000; unfold bd at h8_2; have h8_3 := kb_1200; unfold bd at h8_3; have h8_4 := kb_40; unfold bd at h8_4; omega)
                          have go_ := g
                          refine g_callEv (As := [.int 1, .int 5, .int x_2]) (rest := []) ⟨hx, hb, hml, hown, hts⟩ (r_X14_need_3 l dC dI L kd tys fr_625 H.size g.2.2.2.1 a0_ ma0_ ka0_ 1 kb_1 5 x_2) (cwV 3 hts (gV_ t_2403 t_2405 t_100 t_198 t_2406) rfl rfl rfl (by decide +kernel) ⟨(show 0 + 1 ≤ N + 1 + 24 by omega), (show 8 + (4 + 11) + 0 ≤ 60 * (N + 1) + 700 by omega)⟩) (pre3V g hK ma0_ ka0_ (by decide) (q := (RX14, TX14, 67)) rfl) rfl hl.1 rfl (lv_room (Nat.le_of_ble_eq_true rfl)) dX14_readName_305 (cl_f hck_0) g hK (by decide) (by decide) (fx' := [(14, 17, a0_, .int x_566), (12, 24, q0_, .ref a_565), (14, 6, a0_, .int x_18), (14, 10, a0_, .int x_8), (14, 2, a0_, .ref q0_), (14, 16, a0_, .int o_), (14, 25, a0_, .int op_)]) rfl (fun xr_639 fr_639 H locs mxr_639 kxr_639 hp hMr_639 g => ?_) (fun fr_639 H locs hp hMr_639 g => ?_)
                          · have hG_640 := isN.frame hMr_639 go_.2.2.2.1 ma0_ ka0_ (by decide) (by decide) hG_627
                            have hG_641 := cEq.frame hMr_639 go_.2.2.2.1 ma0_ ka0_ (by decide) (by decide) hG_628
                            have hG_642 := isV.frame hMr_639 go_.2.2.2.1 mq0_ kq0_ (by decide) (by decide) hG_629
                            have hG_643 := FR.frame hMr_639 go_.2.2.2.1 mq0_ kq0_ (by decide) (by decide) hG_630
                            exact hp.elim
                          · have hG_644 := isN.frame hMr_639 go_.2.2.2.1 ma0_ ka0_ (by decide) (by decide) hG_627
                            have hG_645 := cEq.frame hMr_639 go_.2.2.2.1 ma0_ ka0_ (by decide) (by decide) hG_628
                            have hG_646 := isV.frame hMr_639 go_.2.2.2.1 mq0_ kq0_ (by decide) (by decide) hG_629
                            have hG_647 := FR.frame hMr_639 go_.2.2.2.1 mq0_ kq0_ (by decide) (by decide) hG_630
                            refine lv_aload_n hx hb dX14_readName_308 rfl (lv_at hl 6 rfl) ?_
                            refine lv_iload hx hb dX14_readName_309 (lv_at hl 0 rfl) ?_
                            refine lv_iload_n hx hb dX14_readName_311 rfl (lv_at hl 5 rfl) ?_
                            refine lv_iload_n hx hb dX14_readName_312 rfl (lv_at hl 7 rfl) ?_
                            have qc__648 : cF fr_639 a0_ = _ := hG_645
                            have hs_649 := sE_1 g 2 rfl (by have h9_0 := bo_; unfold bd at h9_0; have h9_1 := bop_; unfold bd at h9_1; have h9_2 := b_633; unfold bd at h9_2; have h9_3 := bso_; unfold bd at h9_3; have h9_4 := b_595; unfold bd at h9_4; have h9_5 := b_564; unfold bd at h9_5; have h9_6 := b_561; unfold bd at h9_6; have h9_7 := h_19; unfold bd at h9_7; have h9_8 := bx_2; unfold bd at h9_8; have h9_9 := bx_566; unfold bd at h9_9; have h9_10 := b_576; unfold bd at h9_10; have h9_11 := bx_607; unfold bd at h9_11; have h9_12 := h_9; unfold bd at h9_12; have h9_13 := b_609; unfold bd at h9_13; have h8_0 := kb_0; unfold bd at h8_0; have h8_1 := kb_1; unfold bd at h8_1; have h8_2 := kb_1000; unfold bd at h8_2; have h8_3 := kb_1200; unfold bd at h8_3; have h8_4 := kb_40; unfold bd at h8_4; omega)
                            have b_650 : bd 0 1201 x_8 := ⟨(by have h9_0 := bo_; unfold bd at h9_0; have h9_1 := bop_; unfold bd at h9_1; have h9_2 := b_633; unfold bd at h9_2; have h9_3 := bso_; unfold bd at h9_3; have h9_4 := b_595; unfold bd at h9_4; have h9_5 := b_564; unfold bd at h9_5; have h9_6 := b_561; unfold bd at h9_6; have h9_7 := h_19; unfold bd at h9_7; have h9_8 := bx_2; unfold bd at h9_8; have h9_9 := bx_566; unfold bd at h9_9; have h9_10 := b_576; unfold bd at h9_10; have h9_11 := bx_607; unfold bd at h9_11; have h9_12 := h_9; unfold bd at h9_12; have h9_13 := b_609; unfold bd at h9_13; have h8_0 := kb_0; unfold bd at h8_0; have h8_1 := kb_1; unfold bd at h8_1; have h8_2 := kb_1000; unfold bd at h8_2; have h8_3 := kb_1200; unfold bd at h8_3; have h8_4 := kb_40; unfold bd at h8_4; omega), (by have h9_0 := bo_; unfold bd at h9_0; have h9_1 := bop_; unfold bd at h9_1; have h9_2 := b_633; unfold bd at h9_2; have h9_3 := bso_; unfold bd at h9_3; have h9_4 := b_595; unfold bd at h9_4; have h9_5 := b_564; unfold bd at h9_5; have h9_6 := b_561; unfold bd at h9_6; have h9_7 := h_19; unfold bd at h9_7; have h9_8 := bx_2; unfold bd at h9_8; have h9_9 := bx_566; unfold bd at h9_9; have h9_10 := b_576; unfold bd at h9_10; have h9_11 := bx_607; unfold bd at h9_11; have h9_12 := h_9; unfold bd at h9_12; have h9_13 := b_609; unfold bd at h9_13; have h8_0 := kb_0; unfold bd at h8_0; have h8_1 := kb_1; unfold bd at h8_1; have h8_2 := kb_1000; unfold bd at h8_2; have h8_3 := kb_1200; unfold bd at h8_3; have h8_4 := kb_40; unfold bd at h8_4; omega)⟩
                            have go_ := g
                            refine g_callZi (As := [.int r_625, .int x_2, .int x1_]) (rest := []) ⟨hx, hb, hml, hown, hts⟩ (ih.2.2.2.2.2.1 l dC dI L kd tys fr_639 H.size g.2.2.2.1 adK adV a0_ ma0_ ka0_ r_625 x_2 x1_ (bd_sub b_564 (by decide)) q0_ mq0_ kq0_ V_617 o_ bo_ op_ bop_ x_8 b_650 hG_646 hw_620 (by rw [hx_622.2.2.1 0 (by decide)]; exact ho) (by omega) hm_ hhm hv_634 (K_ - cl_0) (by omega) (by have h9_0 := bo_; unfold bd at h9_0; have h9_1 := bop_; unfold bd at h9_1; have h9_2 := b_633; unfold bd at h9_2; have h9_3 := bso_; unfold bd at h9_3; have h9_4 := b_595; unfold bd at h9_4; have h9_5 := b_564; unfold bd at h9_5; have h9_6 := b_561; unfold bd at h9_6; have h9_7 := h_19; unfold bd at h9_7; have h9_8 := bx_2; unfold bd at h9_8; have h9_9 := bx_566; unfold bd at h9_9; have h9_10 := b_576; unfold bd at h9_10; have h9_11 := bx_607; unfold bd at h9_11; have h9_12 := b_650; unfold bd at h9_12; have h9_13 := b_609; unfold bd at h9_13; have h8_0 := kb_0; unfold bd at h8_0; have h8_1 := kb_1; unfold bd at h8_1; have h8_2 := kb_1000; unfold bd at h8_2; have h8_3 := kb_1200; unfold bd at h8_3; have h8_4 := kb_40; unfold bd at h8_4; omega) (g.fcts [4, 5, 6, 3] rfl)) (cwV 3 hts (gV_ t_2512 t_2514 t_124 t_198 t_2515) rfl rfl rfl (by decide +kernel) ⟨(show N + 24 + 1 ≤ N + 1 + 24 by omega), (show 8 + (8 + 11) + (60 * N + 700) ≤ 60 * (N + 1) + 700 by omega)⟩) (pre3VA g hK hAm ma0_ ka0_ (by decide) (q := (RX14, TX14, 67)) rfl) rfl hl.1 rfl (lv_room (Nat.le_of_ble_eq_true rfl)) dX14_readName_313 (cl_k (K := K_) (k := K_ - cl_0) (show cl_0 + (K_ - cl_0) ≤ K_ by omega)) g hK (by decide) (by decide) (fx' := [(14, 17, a0_, .int x_566), (12, 24, q0_, .ref a_565), (14, 2, a0_, .ref q0_), (14, 16, a0_, .int o_)]) rfl (fun xr_651 fr_651 H locs kr_651 cr_651 ecr_651 mxr_651 kxr_651 hp hMr_651 g => ?_) (fun r_651 fr_651 H locs kr_651 cr_651 ecr_651 hp hMr_651 g => ?_)
                            · have hG_652 := isN.frame hMr_651 go_.2.2.2.1 ma0_ ka0_ (by decide) (by decide) hG_644
                              have hF_653 := FR.call (mds := []) (mas := []) hG_647 go_ mq0_ kq0_ rfl hp.1
                              have hpk := hp.2
                              subst hQ
                              exact leavesX hempty hlocks (fun t ht hW => g_thrZ g hK mxr_651 kxr_651 ⟨hF_653, (by omega)⟩ ht hW) g.2.2.1.2.2
                            · obtain ⟨hx_654, x_655, h_656, hF_657⟩ := hp
                              have hG_658 := isN.frame hMr_651 go_.2.2.2.1 ma0_ ka0_ (by decide) (by decide) hG_644
                              obtain ⟨V_659, E_660, hV_661, hF_662, hE_663, hX_664, hw_665, hv_666, hP_667, hn_668, hk_669, hc_670⟩ := rd_use hx_654 hG_645
                              have hF_671 := FR.call (mds := []) (mas := []) hG_647 go_ mq0_ kq0_ rfl hF_662
                              have mxE_660 : E_660 ≤ 1202 := by have h9 := cF_le g ma0_ ka0_; have h8 : cF _ _ = _ := hE_663; omega
                              have hx_672 := exN.tr hx_622 hX_664
                              have hv_673 := exN.var hX_664 hv_634
                              have hd_674 := nmd_ex hX_664 hd_632
                              have hck_675 : cr_651 ≤ K_ := by omega
                              have b_676 : bd 0 2499 r_651 := ⟨hv_666.1, (by have h9 := hv_666.2.1; omega)⟩
                              have g := g.more hF_657
                              have h9c : cF fr_651 a0_ = _ := hE_663
                              subst hQ
                              exact iretX (v := r_651) hx hb hr (fun t ht hW => g_retZ g hK ⟨_, rfl, ⟨⟨_, hV_661, hF_671, hx_672, hw_665, hv_666, ⟨Or.inl hP_667, fun _ => hP_667⟩, (by omega), (by omega), (by omega)⟩, x_655, h_656, (g.fcts [0, 1] rfl)⟩⟩ ht hW) g.2.2.1.2.2 dX14_readName_316 hlocks
                    · have b_677 : bd 1000 1002 r_625 := ⟨h_631.1, h_631.2⟩
                      have hv_678 : varOK V_617 r_625 o_.toNatClampNeg := Or.inr (Or.inl h_631)
                      refine lv_istore (lv' := [(10, .int r_625), (9, .int 0), (8, .int t_), (6, .long x_4), (4, .long x_3), (3, .int x_2), (0, .ref a0_), (1, .int x1_), (2, .int x2_)]) hx hb dX14_readName_283 hl (by decide) rfl (fun ls hl => ?_)
                      refine lv_aload_n hx hb dX14_readName_285 rfl (lv_at hl 6 rfl) ?_
                      refine lv_iload_n hx hb dX14_readName_286 rfl (lv_at hl 8 rfl) ?_
                      refine lv_if_eq (tgt := 298) hx hb dX14_readName_287 (by decide) (fun c_679 => ?_) (fun c_679 => ?_)
                      · have fc_679 := eq_f c_679
                        exact absurd fc_679 fc_560
                      · have fc_679 := neq_f c_679
                        refine lv_iload hx hb dX14_readName_290 (lv_at hl 0 rfl) ?_
                        refine lv_sipush (v := 1000) hx hb dX14_readName_292 (by decide) ?_
                        have kb_1000 : bd 1000 1000 (1000 : Int32) := ⟨by decide, by decide⟩
                        refine lv_icmp_ge (tgt := 302) hx hb dX14_readName_295 (by decide) (fun c_680 => ?_) (fun c_680 => ?_)
                        · have fc_680 := le_f c_680
                          refine lv_iconst (v := 0) hx hb dX14_readName_302 (by decide) ?_
                          refine lv_iconst (v := 5) hx hb dX14_readName_303 (by decide) ?_
                          refine lv_iload_n hx hb dX14_readName_304 rfl (lv_at hl 5 rfl) ?_
                          have hs_681 := sE_1 g 2 rfl (by have h9_0 := bo_; unfold bd at h9_0; have h9_1 := bop_; unfold bd at h9_1; have h9_2 := b_677; unfold bd at h9_2; have h9_3 := bso_; unfold bd at h9_3; have h9_4 := b_595; unfold bd at h9_4; have h9_5 := b_564; unfold bd at h9_5; have h9_6 := b_561; unfold bd at h9_6; have h9_7 := h_19; unfold bd at h9_7; have h9_8 := bx_2; unfold bd at h9_8; have h9_9 := bx_566; unfold bd at h9_9; have h9_10 := b_576; unfold bd at h9_10; have h9_11 := bx_607; unfold bd at h9_11; have h9_12 := h_9; unfold bd at h9_12; have h9_13 := b_609; unfold bd at h9_13; have h8_0 := kb_0; unfold bd at h8_0; have h8_1 := kb_1; unfold bd at h8_1; have h8_2 := kb_1000; unfold bd at h8_2; have h8_3 := kb_1200; unfold bd at h8_3; have h8_4 := kb_40; unfold bd at h8_4; omega)
                          have go_ := g
                          refine g_callEv (As := [.int 0, .int 5, .int x_2]) (rest := []) ⟨hx, hb, hml, hown, hts⟩ (r_X14_need_2 l dC dI L kd tys fr_625 H.size g.2.2.2.1 a0_ ma0_ ka0_ 0 kb_0 5 x_2) (cwV 3 hts (gV_ t_2403 t_2405 t_100 t_198 t_2406) rfl rfl rfl (by decide +kernel) ⟨(show 1 + 1 ≤ N + 1 + 24 by omega), (show 8 + (4 + 11) + 22 ≤ 60 * (N + 1) + 700 by omega)⟩) (pre3V g hK ma0_ ka0_ (by decide) (q := (RX14, TX14, 67)) rfl) rfl hl.1 rfl (lv_room (Nat.le_of_ble_eq_true rfl)) dX14_readName_305 (cl_f hck_0) g hK (by decide) (by decide) (fx' := [(14, 17, a0_, .int x_566), (12, 24, q0_, .ref a_565), (14, 6, a0_, .int x_18), (14, 10, a0_, .int x_8), (14, 2, a0_, .ref q0_), (14, 16, a0_, .int o_), (14, 25, a0_, .int op_)]) rfl (fun xr_682 fr_682 H locs mxr_682 kxr_682 hp hMr_682 g => ?_) (fun fr_682 H locs hp hMr_682 g => ?_)
                          · have hG_683 := isN.frame hMr_682 go_.2.2.2.1 ma0_ ka0_ (by decide) (by decide) hG_627
                            have hG_684 := cEq.frame hMr_682 go_.2.2.2.1 ma0_ ka0_ (by decide) (by decide) hG_628
                            have hG_685 := isV.frame hMr_682 go_.2.2.2.1 mq0_ kq0_ (by decide) (by decide) hG_629
                            have hG_686 := FR.frame hMr_682 go_.2.2.2.1 mq0_ kq0_ (by decide) (by decide) hG_630
                            subst hQ
                            exact leavesX hempty hlocks (fun t ht hW => g_thrZ g hK mxr_682 kxr_682 ⟨hG_686, (by omega)⟩ ht hW) g.2.2.1.2.2
                          · exact hp.elim
                        · have fc_680 := nle_f c_680
                          have b_687 : bd 1000 999 r_625 := ltL fc_680 b_677 kb_1000 (by decide)
                          exact bd_no b_687 (by decide)
                    · have b_688 : bd 2000 2007 r_625 := ⟨h_631.1, h_631.2⟩
                      have hv_689 : varOK V_617 r_625 o_.toNatClampNeg := Or.inr (Or.inr h_631)
                      refine lv_istore (lv' := [(10, .int r_625), (9, .int 0), (8, .int t_), (6, .long x_4), (4, .long x_3), (3, .int x_2), (0, .ref a0_), (1, .int x1_), (2, .int x2_)]) hx hb dX14_readName_283 hl (by decide) rfl (fun ls hl => ?_)
                      refine lv_aload_n hx hb dX14_readName_285 rfl (lv_at hl 6 rfl) ?_
                      refine lv_iload_n hx hb dX14_readName_286 rfl (lv_at hl 8 rfl) ?_
                      refine lv_if_eq (tgt := 298) hx hb dX14_readName_287 (by decide) (fun c_690 => ?_) (fun c_690 => ?_)
                      · have fc_690 := eq_f c_690
                        exact absurd fc_690 fc_560
                      · have fc_690 := neq_f c_690
                        refine lv_iload hx hb dX14_readName_290 (lv_at hl 0 rfl) ?_
                        refine lv_sipush (v := 1000) hx hb dX14_readName_292 (by decide) ?_
                        have kb_1000 : bd 1000 1000 (1000 : Int32) := ⟨by decide, by decide⟩
                        refine lv_icmp_ge (tgt := 302) hx hb dX14_readName_295 (by decide) (fun c_691 => ?_) (fun c_691 => ?_)
                        · have fc_691 := le_f c_691
                          refine lv_iconst (v := 0) hx hb dX14_readName_302 (by decide) ?_
                          refine lv_iconst (v := 5) hx hb dX14_readName_303 (by decide) ?_
                          refine lv_iload_n hx hb dX14_readName_304 rfl (lv_at hl 5 rfl) ?_
                          have hs_692 := sE_1 g 2 rfl (by have h9_0 := bo_; unfold bd at h9_0; have h9_1 := bop_; unfold bd at h9_1; have h9_2 := b_688; unfold bd at h9_2; have h9_3 := bso_; unfold bd at h9_3; have h9_4 := b_595; unfold bd at h9_4; have h9_5 := b_564; unfold bd at h9_5; have h9_6 := b_561; unfold bd at h9_6; have h9_7 := h_19; unfold bd at h9_7; have h9_8 := bx_2; unfold bd at h9_8; have h9_9 := bx_566; unfold bd at h9_9; have h9_10 := b_576; unfold bd at h9_10; have h9_11 := bx_607; unfold bd at h9_11; have h9_12 := h_9; unfold bd at h9_12; have h9_13 := b_609; unfold bd at h9_13; have h8_0 := kb_0; unfold bd at h8_0; have h8_1 := kb_1; unfold bd at h8_1; have h8_2 := kb_1000; unfold bd at h8_2; have h8_3 := kb_1200; unfold bd at h8_3; have h8_4 := kb_40; unfold bd at h8_4; omega)
                          have go_ := g
                          refine g_callEv (As := [.int 0, .int 5, .int x_2]) (rest := []) ⟨hx, hb, hml, hown, hts⟩ (r_X14_need_2 l dC dI L kd tys fr_625 H.size g.2.2.2.1 a0_ ma0_ ka0_ 0 kb_0 5 x_2) (cwV 3 hts (gV_ t_2403 t_2405 t_100 t_198 t_2406) rfl rfl rfl (by decide +kernel) ⟨(show 1 + 1 ≤ N + 1 + 24 by omega), (show 8 + (4 + 11) + 22 ≤ 60 * (N + 1) + 700 by omega)⟩) (pre3V g hK ma0_ ka0_ (by decide) (q := (RX14, TX14, 67)) rfl) rfl hl.1 rfl (lv_room (Nat.le_of_ble_eq_true rfl)) dX14_readName_305 (cl_f hck_0) g hK (by decide) (by decide) (fx' := [(14, 17, a0_, .int x_566), (12, 24, q0_, .ref a_565), (14, 6, a0_, .int x_18), (14, 10, a0_, .int x_8), (14, 2, a0_, .ref q0_), (14, 16, a0_, .int o_), (14, 25, a0_, .int op_)]) rfl (fun xr_693 fr_693 H locs mxr_693 kxr_693 hp hMr_693 g => ?_) (fun fr_693 H locs hp hMr_693 g => ?_)
                          · have hG_694 := isN.frame hMr_693 go_.2.2.2.1 ma0_ ka0_ (by decide) (by decide) hG_627
                            have hG_695 := cEq.frame hMr_693 go_.2.2.2.1 ma0_ ka0_ (by decide) (by decide) hG_628
                            have hG_696 := isV.frame hMr_693 go_.2.2.2.1 mq0_ kq0_ (by decide) (by decide) hG_629
                            have hG_697 := FR.frame hMr_693 go_.2.2.2.1 mq0_ kq0_ (by decide) (by decide) hG_630
                            subst hQ
                            exact leavesX hempty hlocks (fun t ht hW => g_thrZ g hK mxr_693 kxr_693 ⟨hG_697, (by omega)⟩ ht hW) g.2.2.1.2.2
                          · exact hp.elim
                        · have fc_691 := nle_f c_691
                          have b_698 : bd 2000 999 r_625 := ltL fc_691 b_688 kb_1000 (by decide)
                          exact bd_no b_698 (by decide)
                  · have fc_606 := neq_f c_606
                    have b_699 : bd 1 (-1) x1_ := neX fc_606 b_564 kb_0 (by decide)
                    exact bd_no b_699 (by decide)
        · have fc_563 := neq_f c_563
          have b_700 : bd 1 1 x1_ := neX fc_563 bx1_ kb_0 (by decide)
          refine lv_aload_n hx hb dX14_readName_98 rfl (lv_at hl 5 rfl) ?_
          refine g_getk (C := RX14) (T := TX14) (N := 67) hx hb hts (mc_ inX14) hown hK g rfl 2 (by decide) rfl (hts _ (List.mem_cons_of_mem _ t_2148)) (fun _ h9 => h9) 2 rfl dX14_readName_99 ?_
          refine g_geti (C := RX12) (T := TX12) (N := 60) hx hb hts (mc_ inX12) hown hK g mq0_ kq0_ (by decide) rfl 58 (by decide) rfl (hts _ (List.mem_cons_of_mem _ t_2018)) (fun _ h9 => h9) rfl dX14_readName_102 (fun x_701 bx_701 g => ?_)
          refine lv_sipush (v := 2000) hx hb dX14_readName_105 (by decide) ?_
          have kb_2000 : bd 2000 2000 (2000 : Int32) := ⟨by decide, by decide⟩
          refine lv_icmp_ge (tgt := 115) hx hb dX14_readName_108 (by decide) (fun c_702 => ?_) (fun c_702 => ?_)
          · have fc_702 := le_f c_702
            have b_703 : bd 2000 2147483647 x_701 := leR fc_702 kb_2000 (bdT x_701) (by decide)
            refine lv_iconst (v := 0) hx hb dX14_readName_115 (by decide) ?_
            refine lv_goto (tgt := 141) hx hb dX14_readName_116 (by decide) ?_
            refine lv_iconst (v := 4) hx hb dX14_readName_141 (by decide) ?_
            refine lv_iload_n hx hb dX14_readName_142 rfl (lv_at hl 4 rfl) ?_
            have hs_704 := sE_1 g 1 rfl (by have h9_0 := bo_; unfold bd at h9_0; have h9_1 := bop_; unfold bd at h9_1; have h9_2 := bso_; unfold bd at h9_2; have h9_3 := bt_; unfold bd at h9_3; have h9_4 := b_700; unfold bd at h9_4; have h9_5 := b_561; unfold bd at h9_5; have h9_6 := h_19; unfold bd at h9_6; have h9_7 := bx_2; unfold bd at h9_7; have h9_8 := b_703; unfold bd at h9_8; have h9_9 := h_9; unfold bd at h9_9; have h8_0 := kb_0; unfold bd at h8_0; have h8_1 := kb_2000; unfold bd at h8_1; omega)
            have go_ := g
            refine g_callEv (As := [.int 0, .int 4, .int x_2]) (rest := []) ⟨hx, hb, hml, hown, hts⟩ (r_X14_need_2 l dC dI L kd tys f H.size g.2.2.2.1 a0_ ma0_ ka0_ 0 kb_0 4 x_2) (cwV 3 hts (gV_ t_2403 t_2405 t_100 t_198 t_2406) rfl rfl rfl (by decide +kernel) ⟨(show 1 + 1 ≤ N + 1 + 24 by omega), (show 8 + (4 + 11) + 22 ≤ 60 * (N + 1) + 700 by omega)⟩) (pre3V g hK ma0_ ka0_ (by decide) (q := (RX14, TX14, 67)) rfl) rfl hl.1 rfl (lv_room (Nat.le_of_ble_eq_true rfl)) dX14_readName_143 (cl_f hck_0) g hK (by decide) (by decide) (fx' := [(12, 58, q0_, .int x_701), (14, 6, a0_, .int x_18), (14, 10, a0_, .int x_8), (14, 2, a0_, .ref q0_), (14, 16, a0_, .int o_), (14, 25, a0_, .int op_)]) rfl (fun xr_705 fr_705 H locs mxr_705 kxr_705 hp hMr_705 g => ?_) (fun fr_705 H locs hp hMr_705 g => ?_)
            · have hG_706 := isV.frame hMr_705 go_.2.2.2.1 mq0_ kq0_ (by decide) (by decide) hJ93_V_q0_
              have hG_707 := FR.frame hMr_705 go_.2.2.2.1 mq0_ kq0_ (by decide) (by decide) hJ93_F_q0_
              have hG_708 := isN.frame hMr_705 go_.2.2.2.1 ma0_ ka0_ (by decide) (by decide) hJ93_N_a0_
              have hG_709 := cEq.frame hMr_705 go_.2.2.2.1 ma0_ ka0_ (by decide) (by decide) hJ93_C_a0_
              subst hQ
              exact leavesX hempty hlocks (fun t ht hW => g_thrZ g hK mxr_705 kxr_705 ⟨hG_707, (by omega)⟩ ht hW) g.2.2.1.2.2
            · exact hp.elim
          · have fc_702 := nle_f c_702
            have b_710 : bd (-2147483648) 1999 x_701 := ltL fc_702 (bdT x_701) kb_2000 (by decide)
            refine lv_iconst (v := 1) hx hb dX14_readName_111 (by decide) ?_
            refine lv_goto (tgt := 141) hx hb dX14_readName_112 (by decide) ?_
            refine lv_iconst (v := 4) hx hb dX14_readName_141 (by decide) ?_
            refine lv_iload_n hx hb dX14_readName_142 rfl (lv_at hl 4 rfl) ?_
            have hs_711 := sE_1 g 1 rfl (by have h9_0 := bo_; unfold bd at h9_0; have h9_1 := bop_; unfold bd at h9_1; have h9_2 := bso_; unfold bd at h9_2; have h9_3 := bt_; unfold bd at h9_3; have h9_4 := b_700; unfold bd at h9_4; have h9_5 := b_561; unfold bd at h9_5; have h9_6 := h_19; unfold bd at h9_6; have h9_7 := bx_2; unfold bd at h9_7; have h9_8 := b_710; unfold bd at h9_8; have h9_9 := h_9; unfold bd at h9_9; have h8_0 := kb_0; unfold bd at h8_0; have h8_1 := kb_2000; unfold bd at h8_1; omega)
            have kb_1 : bd 1 1 (1 : Int32) := ⟨by decide, by decide⟩
            have go_ := g
            refine g_callEv (As := [.int 1, .int 4, .int x_2]) (rest := []) ⟨hx, hb, hml, hown, hts⟩ (r_X14_need_3 l dC dI L kd tys f H.size g.2.2.2.1 a0_ ma0_ ka0_ 1 kb_1 4 x_2) (cwV 3 hts (gV_ t_2403 t_2405 t_100 t_198 t_2406) rfl rfl rfl (by decide +kernel) ⟨(show 0 + 1 ≤ N + 1 + 24 by omega), (show 8 + (4 + 11) + 0 ≤ 60 * (N + 1) + 700 by omega)⟩) (pre3V g hK ma0_ ka0_ (by decide) (q := (RX14, TX14, 67)) rfl) rfl hl.1 rfl (lv_room (Nat.le_of_ble_eq_true rfl)) dX14_readName_143 (cl_f hck_0) g hK (by decide) (by decide) (fx' := [(12, 58, q0_, .int x_701), (14, 6, a0_, .int x_18), (14, 10, a0_, .int x_8), (14, 2, a0_, .ref q0_), (14, 16, a0_, .int o_), (14, 25, a0_, .int op_)]) rfl (fun xr_712 fr_712 H locs mxr_712 kxr_712 hp hMr_712 g => ?_) (fun fr_712 H locs hp hMr_712 g => ?_)
            · have hG_713 := isV.frame hMr_712 go_.2.2.2.1 mq0_ kq0_ (by decide) (by decide) hJ93_V_q0_
              have hG_714 := FR.frame hMr_712 go_.2.2.2.1 mq0_ kq0_ (by decide) (by decide) hJ93_F_q0_
              have hG_715 := isN.frame hMr_712 go_.2.2.2.1 ma0_ ka0_ (by decide) (by decide) hJ93_N_a0_
              have hG_716 := cEq.frame hMr_712 go_.2.2.2.1 ma0_ ka0_ (by decide) (by decide) hJ93_C_a0_
              exact hp.elim
            · have hG_717 := isV.frame hMr_712 go_.2.2.2.1 mq0_ kq0_ (by decide) (by decide) hJ93_V_q0_
              have hG_718 := FR.frame hMr_712 go_.2.2.2.1 mq0_ kq0_ (by decide) (by decide) hJ93_F_q0_
              have hG_719 := isN.frame hMr_712 go_.2.2.2.1 ma0_ ka0_ (by decide) (by decide) hJ93_N_a0_
              have hG_720 := cEq.frame hMr_712 go_.2.2.2.1 ma0_ ka0_ (by decide) (by decide) hJ93_C_a0_
              refine lv_aload_n hx hb dX14_readName_146 rfl (lv_at hl 5 rfl) ?_
              refine lv_iload hx hb dX14_readName_147 (lv_at hl 1 rfl) ?_
              refine lv_sipush (v := 1200) hx hb dX14_readName_149 (by decide) ?_
              have kb_1200 : bd 1200 1200 (1200 : Int32) := ⟨by decide, by decide⟩
              refine lv_icmp_gt (tgt := 159) hx hb dX14_readName_152 (by decide) (fun c_721 => ?_) (fun c_721 => ?_)
              · have fc_721 := lt_f c_721
                have b_722 : bd 1201 1201 t_ := ltR fc_721 kb_1200 bt_ (by decide)
                refine lv_iconst (v := 0) hx hb dX14_readName_159 (by decide) ?_
                refine lv_iconst (v := 4) hx hb dX14_readName_160 (by decide) ?_
                refine lv_iload_n hx hb dX14_readName_161 rfl (lv_at hl 4 rfl) ?_
                have hs_723 := sE_1 g 1 rfl (by have h9_0 := bo_; unfold bd at h9_0; have h9_1 := bop_; unfold bd at h9_1; have h9_2 := bso_; unfold bd at h9_2; have h9_3 := b_722; unfold bd at h9_3; have h9_4 := b_700; unfold bd at h9_4; have h9_5 := b_561; unfold bd at h9_5; have h9_6 := h_19; unfold bd at h9_6; have h9_7 := bx_2; unfold bd at h9_7; have h9_8 := b_710; unfold bd at h9_8; have h9_9 := h_9; unfold bd at h9_9; have h8_0 := kb_0; unfold bd at h8_0; have h8_1 := kb_1; unfold bd at h8_1; have h8_2 := kb_1200; unfold bd at h8_2; have h8_3 := kb_2000; unfold bd at h8_3; omega)
                have go_ := g
                refine g_callEv (As := [.int 0, .int 4, .int x_2]) (rest := []) ⟨hx, hb, hml, hown, hts⟩ (r_X14_need_2 l dC dI L kd tys fr_712 H.size g.2.2.2.1 a0_ ma0_ ka0_ 0 kb_0 4 x_2) (cwV 3 hts (gV_ t_2403 t_2405 t_100 t_198 t_2406) rfl rfl rfl (by decide +kernel) ⟨(show 1 + 1 ≤ N + 1 + 24 by omega), (show 8 + (4 + 11) + 22 ≤ 60 * (N + 1) + 700 by omega)⟩) (pre3V g hK ma0_ ka0_ (by decide) (q := (RX14, TX14, 67)) rfl) rfl hl.1 rfl (lv_room (Nat.le_of_ble_eq_true rfl)) dX14_readName_162 (cl_f hck_0) g hK (by decide) (by decide) (fx' := [(12, 58, q0_, .int x_701), (14, 6, a0_, .int x_18), (14, 10, a0_, .int x_8), (14, 2, a0_, .ref q0_), (14, 16, a0_, .int o_), (14, 25, a0_, .int op_)]) rfl (fun xr_724 fr_724 H locs mxr_724 kxr_724 hp hMr_724 g => ?_) (fun fr_724 H locs hp hMr_724 g => ?_)
                · have hG_725 := isV.frame hMr_724 go_.2.2.2.1 mq0_ kq0_ (by decide) (by decide) hG_717
                  have hG_726 := FR.frame hMr_724 go_.2.2.2.1 mq0_ kq0_ (by decide) (by decide) hG_718
                  have hG_727 := isN.frame hMr_724 go_.2.2.2.1 ma0_ ka0_ (by decide) (by decide) hG_719
                  have hG_728 := cEq.frame hMr_724 go_.2.2.2.1 ma0_ ka0_ (by decide) (by decide) hG_720
                  subst hQ
                  exact leavesX hempty hlocks (fun t ht hW => g_thrZ g hK mxr_724 kxr_724 ⟨hG_726, (by omega)⟩ ht hW) g.2.2.1.2.2
                · exact hp.elim
              · have fc_721 := nlt_f c_721
                have b_729 : bd 0 1200 t_ := leL fc_721 bt_ kb_1200 (by decide)
                refine lv_iconst (v := 1) hx hb dX14_readName_155 (by decide) ?_
                refine lv_goto (tgt := 160) hx hb dX14_readName_156 (by decide) ?_
                refine lv_iconst (v := 4) hx hb dX14_readName_160 (by decide) ?_
                refine lv_iload_n hx hb dX14_readName_161 rfl (lv_at hl 4 rfl) ?_
                have hs_730 := sE_1 g 1 rfl (by have h9_0 := bo_; unfold bd at h9_0; have h9_1 := bop_; unfold bd at h9_1; have h9_2 := bso_; unfold bd at h9_2; have h9_3 := b_729; unfold bd at h9_3; have h9_4 := b_700; unfold bd at h9_4; have h9_5 := b_561; unfold bd at h9_5; have h9_6 := h_19; unfold bd at h9_6; have h9_7 := bx_2; unfold bd at h9_7; have h9_8 := b_710; unfold bd at h9_8; have h9_9 := h_9; unfold bd at h9_9; have h8_0 := kb_0; unfold bd at h8_0; have h8_1 := kb_1; unfold bd at h8_1; have h8_2 := kb_1200; unfold bd at h8_2; have h8_3 := kb_2000; unfold bd at h8_3; omega)
                have go_ := g
                refine g_callEv (As := [.int 1, .int 4, .int x_2]) (rest := []) ⟨hx, hb, hml, hown, hts⟩ (r_X14_need_3 l dC dI L kd tys fr_712 H.size g.2.2.2.1 a0_ ma0_ ka0_ 1 kb_1 4 x_2) (cwV 3 hts (gV_ t_2403 t_2405 t_100 t_198 t_2406) rfl rfl rfl (by decide +kernel) ⟨(show 0 + 1 ≤ N + 1 + 24 by omega), (show 8 + (4 + 11) + 0 ≤ 60 * (N + 1) + 700 by omega)⟩) (pre3V g hK ma0_ ka0_ (by decide) (q := (RX14, TX14, 67)) rfl) rfl hl.1 rfl (lv_room (Nat.le_of_ble_eq_true rfl)) dX14_readName_162 (cl_f hck_0) g hK (by decide) (by decide) (fx' := [(12, 58, q0_, .int x_701), (14, 6, a0_, .int x_18), (14, 10, a0_, .int x_8), (14, 2, a0_, .ref q0_), (14, 16, a0_, .int o_), (14, 25, a0_, .int op_)]) rfl (fun xr_731 fr_731 H locs mxr_731 kxr_731 hp hMr_731 g => ?_) (fun fr_731 H locs hp hMr_731 g => ?_)
                · have hG_732 := isV.frame hMr_731 go_.2.2.2.1 mq0_ kq0_ (by decide) (by decide) hG_717
                  have hG_733 := FR.frame hMr_731 go_.2.2.2.1 mq0_ kq0_ (by decide) (by decide) hG_718
                  have hG_734 := isN.frame hMr_731 go_.2.2.2.1 ma0_ ka0_ (by decide) (by decide) hG_719
                  have hG_735 := cEq.frame hMr_731 go_.2.2.2.1 ma0_ ka0_ (by decide) (by decide) hG_720
                  exact hp.elim
                · have hG_736 := isV.frame hMr_731 go_.2.2.2.1 mq0_ kq0_ (by decide) (by decide) hG_717
                  have hG_737 := FR.frame hMr_731 go_.2.2.2.1 mq0_ kq0_ (by decide) (by decide) hG_718
                  have hG_738 := isN.frame hMr_731 go_.2.2.2.1 ma0_ ka0_ (by decide) (by decide) hG_719
                  have hG_739 := cEq.frame hMr_731 go_.2.2.2.1 ma0_ ka0_ (by decide) (by decide) hG_720
                  refine lv_iload_n hx hb dX14_readName_165 rfl (lv_at hl 6 rfl) ?_
                  refine lv_if_eq (tgt := 185) hx hb dX14_readName_166 (by decide) (fun c_740 => ?_) (fun c_740 => ?_)
                  · have fc_740 := eq_f c_740
                    exact absurd fc_740 fc_563
                  · have fc_740 := neq_f c_740
                    refine lv_aload_n hx hb dX14_readName_169 rfl (lv_at hl 5 rfl) ?_
                    refine g_getk (C := RX14) (T := TX14) (N := 67) hx hb hts (mc_ inX14) hown hK g rfl 2 (by decide) rfl (hts _ (List.mem_cons_of_mem _ t_2148)) (fun _ h9 => h9) 3 rfl dX14_readName_170 ?_
                    refine lv_dup hx hb dX14_readName_173 rfl ?_
                    refine g_getk (C := RX12) (T := TX12) (N := 60) hx hb hts (mc_ inX12) hown hK g rfl 58 (by decide) rfl (hts _ (List.mem_cons_of_mem _ t_2018)) (fun _ h9 => h9) 0 rfl dX14_readName_174 ?_
                    refine lv_iconst (v := 1) hx hb dX14_readName_177 (by decide) ?_
                    refine lv_iadd hx hb dX14_readName_178 ?_
                    refine lv_topi (fun y_741 ey_741 => ?_)
                    have ty_741 := add_bd ey_741 b_710 kb_1 (by decide)
                    have b_742 : bd (-2147483647) 2000 y_741 := add_rg ty_741 b_710 kb_1 (by decide)
                    have gp_743 := g
                    have go_ := g
                    refine g_putX (C := RX12) (T := TX12) (N := 60) hx hb hts (mc_ inX12) tyX12 tyX12_ok nmX12 hown hK g mq0_ kq0_ (by decide) rfl 58 (by decide) (hts _ (List.mem_cons_of_mem _ t_2018)) (fun _ h9 => h9) rfl rfl (okV_i (bd_sub b_742 (by decide))) rfl rfl (by decide) (Or.inr (Or.inl (by decide))) (fx' := [(14, 6, a0_, .int x_18), (14, 10, a0_, .int x_8), (14, 2, a0_, .ref q0_), (14, 16, a0_, .int o_), (14, 25, a0_, .int op_)]) rfl dX14_readName_179 (fun f H locs hM_744 u_747 g => ?_)
                    have hG_745 := isN.frame hM_744 go_.2.2.2.1 ma0_ ka0_ (by decide) (by decide) hG_738
                    have hG_746 := cEq.frame hM_744 go_.2.2.2.1 ma0_ ka0_ (by decide) (by decide) hG_739
                    have hV_748 := isV.u58 hG_736 gp_743.2.2.2.1 mq0_ kq0_ u_747
                    have hF_749 := FR.fld hG_737 u_747
                    refine lv_goto (tgt := 201) hx hb dX14_readName_182 (by decide) ?_
                    refine lv_iload hx hb dX14_readName_201 (lv_at hl 0 rfl) ?_
                    refine lv_if_eq (tgt := 275) hx hb dX14_readName_203 (by decide) (fun c_ => ?_) (fun c_ => absurd (by decide) c_)
                    refine lv_aload_n hx hb dX14_readName_275 rfl (lv_at hl 5 rfl) ?_
                    refine lv_lload hx hb dX14_readName_276 (lv_at hl 3 rfl) ?_
                    refine lv_lload hx hb dX14_readName_278 (lv_at hl 2 rfl) ?_
                    have hs_750 := sE_1 g 1 rfl (by have h9_0 := bo_; unfold bd at h9_0; have h9_1 := bop_; unfold bd at h9_1; have h9_2 := bso_; unfold bd at h9_2; have h9_3 := b_729; unfold bd at h9_3; have h9_4 := b_700; unfold bd at h9_4; have h9_5 := b_561; unfold bd at h9_5; have h9_6 := h_19; unfold bd at h9_6; have h9_7 := bx_2; unfold bd at h9_7; have h9_8 := b_710; unfold bd at h9_8; have h9_9 := h_9; unfold bd at h9_9; have h9_10 := b_742; unfold bd at h9_10; have h8_0 := kb_0; unfold bd at h8_0; have h8_1 := kb_1; unfold bd at h8_1; have h8_2 := kb_1200; unfold bd at h8_2; have h8_3 := kb_2000; unfold bd at h8_3; omega)
                    have go_ := g
                    refine g_calli (va_runV (As := [.long x_3, .long x_4]) (rest := []) ⟨hx, hb, hml, hown, hts⟩ (r_X14_named_2 l dC dI L kd tys f H.size g.2.2.2.1 a0_ ma0_ ka0_ x_3 x_4 q0_ mq0_ kq0_ o_ bo_ V_ N_ hG_745 hV_748 (g.fcts [3, 4] rfl)) (cwV 2 hts (gV_ t_2504 t_2506 t_122 t_198 t_2507) rfl rfl rfl (by decide +kernel) ⟨(show 1 + 1 ≤ N + 1 + 24 by omega), (show 8 + (6 + 11) + 26 ≤ 60 * (N + 1) + 700 by omega)⟩) (pre3V g hK ma0_ ka0_ (by decide) (q := (RX14, TX14, 67)) rfl) rfl rfl hl.1 rfl (lv_room (Nat.le_of_ble_eq_true rfl)) dX14_readName_280 (cl_f hck_0)) g hK (by decide) (by decide) (fx' := [(12, 58, q0_, .int y_741), (14, 6, a0_, .int x_18), (14, 10, a0_, .int x_8), (14, 2, a0_, .ref q0_), (14, 16, a0_, .int o_), (14, 25, a0_, .int op_)]) rfl (fun r_751 fr_751 H locs hp hMr_751 g => ?_)
                    obtain ⟨hx_752, -⟩ := hp
                    have hG_753 := isN.frame hMr_751 go_.2.2.2.1 ma0_ ka0_ (by decide) (by decide) hG_745
                    have hG_754 := cEq.frame hMr_751 go_.2.2.2.1 ma0_ ka0_ (by decide) (by decide) hG_746
                    have hG_755 := isV.frame hMr_751 go_.2.2.2.1 mq0_ kq0_ (by decide) (by decide) hV_748
                    have hG_756 := FR.frame hMr_751 go_.2.2.2.1 mq0_ kq0_ (by decide) (by decide) hF_749
                    rcases hx_752 with ⟨h_757, hd_758⟩ | ⟨h_757 | h_757 | h_757, hd_758⟩
                    · obtain rfl : r_751 = (-1) := Int32.toInt_inj.mp (h_757.trans (by decide))
                      exact absurd hd93 hd_758
                    · have b_759 : bd 0 9 r_751 := ⟨h_757.1, h_757.2.1⟩
                      have hv_760 : varOK V_ r_751 o_.toNatClampNeg := Or.inl h_757
                      refine lv_istore (lv' := [(10, .int r_751), (9, .int 0), (8, .int t_), (6, .long x_4), (4, .long x_3), (3, .int x_2), (0, .ref a0_), (1, .int x1_), (2, .int x2_)]) hx hb dX14_readName_283 hl (by decide) rfl (fun ls hl => ?_)
                      refine lv_aload_n hx hb dX14_readName_285 rfl (lv_at hl 6 rfl) ?_
                      refine lv_iload_n hx hb dX14_readName_286 rfl (lv_at hl 8 rfl) ?_
                      refine lv_if_eq (tgt := 298) hx hb dX14_readName_287 (by decide) (fun c_761 => ?_) (fun c_761 => ?_)
                      · have fc_761 := eq_f c_761
                        exact absurd fc_761 fc_560
                      · have fc_761 := neq_f c_761
                        refine lv_iload hx hb dX14_readName_290 (lv_at hl 0 rfl) ?_
                        refine lv_sipush (v := 1000) hx hb dX14_readName_292 (by decide) ?_
                        have kb_1000 : bd 1000 1000 (1000 : Int32) := ⟨by decide, by decide⟩
                        refine lv_icmp_ge (tgt := 302) hx hb dX14_readName_295 (by decide) (fun c_762 => ?_) (fun c_762 => ?_)
                        · have fc_762 := le_f c_762
                          have b_763 : bd 1000 9 (1000 : Int32) := leL fc_762 kb_1000 b_759 (by decide)
                          exact bd_no (eqX rfl b_763 kb_1000 (lo := 1000) (hi := 9) (by decide)) (by decide)
                        · have fc_762 := nle_f c_762
                          refine lv_iconst (v := 1) hx hb dX14_readName_298 (by decide) ?_
                          refine lv_goto (tgt := 303) hx hb dX14_readName_299 (by decide) ?_
                          refine lv_iconst (v := 5) hx hb dX14_readName_303 (by decide) ?_
                          refine lv_iload_n hx hb dX14_readName_304 rfl (lv_at hl 5 rfl) ?_
                          have hs_764 := sE_1 g 1 rfl (by have h9_0 := bo_; unfold bd at h9_0; have h9_1 := bop_; unfold bd at h9_1; have h9_2 := b_759; unfold bd at h9_2; have h9_3 := bso_; unfold bd at h9_3; have h9_4 := b_729; unfold bd at h9_4; have h9_5 := b_700; unfold bd at h9_5; have h9_6 := b_561; unfold bd at h9_6; have h9_7 := h_19; unfold bd at h9_7; have h9_8 := bx_2; unfold bd at h9_8; have h9_9 := b_710; unfold bd at h9_9; have h9_10 := h_9; unfold bd at h9_10; have h9_11 := b_742; unfold bd at h9_11; have h8_0 := kb_0; unfold bd at h8_0; have h8_1 := kb_1; unfold bd at h8_1; have h8_2 := kb_1000; unfold bd at h8_2; have h8_3 := kb_1200; unfold bd at h8_3; have h8_4 := kb_2000; unfold bd at h8_4; omega)
                          have go_ := g
                          refine g_callEv (As := [.int 1, .int 5, .int x_2]) (rest := []) ⟨hx, hb, hml, hown, hts⟩ (r_X14_need_3 l dC dI L kd tys fr_751 H.size g.2.2.2.1 a0_ ma0_ ka0_ 1 kb_1 5 x_2) (cwV 3 hts (gV_ t_2403 t_2405 t_100 t_198 t_2406) rfl rfl rfl (by decide +kernel) ⟨(show 0 + 1 ≤ N + 1 + 24 by omega), (show 8 + (4 + 11) + 0 ≤ 60 * (N + 1) + 700 by omega)⟩) (pre3V g hK ma0_ ka0_ (by decide) (q := (RX14, TX14, 67)) rfl) rfl hl.1 rfl (lv_room (Nat.le_of_ble_eq_true rfl)) dX14_readName_305 (cl_f hck_0) g hK (by decide) (by decide) (fx' := [(12, 58, q0_, .int y_741), (14, 6, a0_, .int x_18), (14, 10, a0_, .int x_8), (14, 2, a0_, .ref q0_), (14, 16, a0_, .int o_), (14, 25, a0_, .int op_)]) rfl (fun xr_765 fr_765 H locs mxr_765 kxr_765 hp hMr_765 g => ?_) (fun fr_765 H locs hp hMr_765 g => ?_)
                          · have hG_766 := isN.frame hMr_765 go_.2.2.2.1 ma0_ ka0_ (by decide) (by decide) hG_753
                            have hG_767 := cEq.frame hMr_765 go_.2.2.2.1 ma0_ ka0_ (by decide) (by decide) hG_754
                            have hG_768 := isV.frame hMr_765 go_.2.2.2.1 mq0_ kq0_ (by decide) (by decide) hG_755
                            have hG_769 := FR.frame hMr_765 go_.2.2.2.1 mq0_ kq0_ (by decide) (by decide) hG_756
                            exact hp.elim
                          · have hG_770 := isN.frame hMr_765 go_.2.2.2.1 ma0_ ka0_ (by decide) (by decide) hG_753
                            have hG_771 := cEq.frame hMr_765 go_.2.2.2.1 ma0_ ka0_ (by decide) (by decide) hG_754
                            have hG_772 := isV.frame hMr_765 go_.2.2.2.1 mq0_ kq0_ (by decide) (by decide) hG_755
                            have hG_773 := FR.frame hMr_765 go_.2.2.2.1 mq0_ kq0_ (by decide) (by decide) hG_756
                            refine lv_aload_n hx hb dX14_readName_308 rfl (lv_at hl 6 rfl) ?_
                            refine lv_iload hx hb dX14_readName_309 (lv_at hl 0 rfl) ?_
                            refine lv_iload_n hx hb dX14_readName_311 rfl (lv_at hl 5 rfl) ?_
                            refine lv_iload_n hx hb dX14_readName_312 rfl (lv_at hl 7 rfl) ?_
                            have qc__774 : cF fr_765 a0_ = _ := hG_771
                            have hs_775 := sE_1 g 1 rfl (by have h9_0 := bo_; unfold bd at h9_0; have h9_1 := bop_; unfold bd at h9_1; have h9_2 := b_759; unfold bd at h9_2; have h9_3 := bso_; unfold bd at h9_3; have h9_4 := b_729; unfold bd at h9_4; have h9_5 := b_700; unfold bd at h9_5; have h9_6 := b_561; unfold bd at h9_6; have h9_7 := h_19; unfold bd at h9_7; have h9_8 := bx_2; unfold bd at h9_8; have h9_9 := b_710; unfold bd at h9_9; have h9_10 := h_9; unfold bd at h9_10; have h9_11 := b_742; unfold bd at h9_11; have h8_0 := kb_0; unfold bd at h8_0; have h8_1 := kb_1; unfold bd at h8_1; have h8_2 := kb_1000; unfold bd at h8_2; have h8_3 := kb_1200; unfold bd at h8_3; have h8_4 := kb_2000; unfold bd at h8_4; omega)
                            have b_776 : bd 0 1201 x_8 := ⟨(by have h9_0 := bo_; unfold bd at h9_0; have h9_1 := bop_; unfold bd at h9_1; have h9_2 := b_759; unfold bd at h9_2; have h9_3 := bso_; unfold bd at h9_3; have h9_4 := b_729; unfold bd at h9_4; have h9_5 := b_700; unfold bd at h9_5; have h9_6 := b_561; unfold bd at h9_6; have h9_7 := h_19; unfold bd at h9_7; have h9_8 := bx_2; unfold bd at h9_8; have h9_9 := b_710; unfold bd at h9_9; have h9_10 := h_9; unfold bd at h9_10; have h9_11 := b_742; unfold bd at h9_11; have h8_0 := kb_0; unfold bd at h8_0; have h8_1 := kb_1; unfold bd at h8_1; have h8_2 := kb_1000; unfold bd at h8_2; have h8_3 := kb_1200; unfold bd at h8_3; have h8_4 := kb_2000; unfold bd at h8_4; omega), (by have h9_0 := bo_; unfold bd at h9_0; have h9_1 := bop_; unfold bd at h9_1; have h9_2 := b_759; unfold bd at h9_2; have h9_3 := bso_; unfold bd at h9_3; have h9_4 := b_729; unfold bd at h9_4; have h9_5 := b_700; unfold bd at h9_5; have h9_6 := b_561; unfold bd at h9_6; have h9_7 := h_19; unfold bd at h9_7; have h9_8 := bx_2; unfold bd at h9_8; have h9_9 := b_710; unfold bd at h9_9; have h9_10 := h_9; unfold bd at h9_10; have h9_11 := b_742; unfold bd at h9_11; have h8_0 := kb_0; unfold bd at h8_0; have h8_1 := kb_1; unfold bd at h8_1; have h8_2 := kb_1000; unfold bd at h8_2; have h8_3 := kb_1200; unfold bd at h8_3; have h8_4 := kb_2000; unfold bd at h8_4; omega)⟩
                            have go_ := g
                            refine g_callZi (As := [.int r_751, .int x_2, .int x1_]) (rest := []) ⟨hx, hb, hml, hown, hts⟩ (ih.2.2.2.2.2.1 l dC dI L kd tys fr_765 H.size g.2.2.2.1 adK adV a0_ ma0_ ka0_ r_751 x_2 x1_ (bd_sub b_700 (by decide)) q0_ mq0_ kq0_ V_ o_ bo_ op_ bop_ x_8 b_776 hG_772 hwf ho (by omega) hm_ hhm hv_760 (K_ - cl_0) (by omega) (by have h9_0 := bo_; unfold bd at h9_0; have h9_1 := bop_; unfold bd at h9_1; have h9_2 := b_759; unfold bd at h9_2; have h9_3 := bso_; unfold bd at h9_3; have h9_4 := b_729; unfold bd at h9_4; have h9_5 := b_700; unfold bd at h9_5; have h9_6 := b_561; unfold bd at h9_6; have h9_7 := h_19; unfold bd at h9_7; have h9_8 := bx_2; unfold bd at h9_8; have h9_9 := b_710; unfold bd at h9_9; have h9_10 := b_776; unfold bd at h9_10; have h9_11 := b_742; unfold bd at h9_11; have h8_0 := kb_0; unfold bd at h8_0; have h8_1 := kb_1; unfold bd at h8_1; have h8_2 := kb_1000; unfold bd at h8_2; have h8_3 := kb_1200; unfold bd at h8_3; have h8_4 := kb_2000; unfold bd at h8_4; omega) (g.fcts [3, 4, 5, 2] rfl)) (cwV 3 hts (gV_ t_2512 t_2514 t_124 t_198 t_2515) rfl rfl rfl (by decide +kernel) ⟨(show N + 24 + 1 ≤ N + 1 + 24 by omega), (show 8 + (8 + 11) + (60 * N + 700) ≤ 60 * (N + 1) + 700 by omega)⟩) (pre3VA g hK hAm ma0_ ka0_ (by decide) (q := (RX14, TX14, 67)) rfl) rfl hl.1 rfl (lv_room (Nat.le_of_ble_eq_true rfl)) dX14_readName_313 (cl_k (K := K_) (k := K_ - cl_0) (show cl_0 + (K_ - cl_0) ≤ K_ by omega)) g hK (by decide) (by decide) (fx' := [(14, 2, a0_, .ref q0_), (14, 16, a0_, .int o_)]) rfl (fun xr_777 fr_777 H locs kr_777 cr_777 ecr_777 mxr_777 kxr_777 hp hMr_777 g => ?_) (fun r_777 fr_777 H locs kr_777 cr_777 ecr_777 hp hMr_777 g => ?_)
                            · have hG_778 := isN.frame hMr_777 go_.2.2.2.1 ma0_ ka0_ (by decide) (by decide) hG_770
                              have hF_779 := FR.call (mds := []) (mas := []) hG_773 go_ mq0_ kq0_ rfl hp.1
                              have hpk := hp.2
                              subst hQ
                              exact leavesX hempty hlocks (fun t ht hW => g_thrZ g hK mxr_777 kxr_777 ⟨hF_779, (by omega)⟩ ht hW) g.2.2.1.2.2
                            · obtain ⟨hx_780, x_781, h_782, hF_783⟩ := hp
                              have hG_784 := isN.frame hMr_777 go_.2.2.2.1 ma0_ ka0_ (by decide) (by decide) hG_770
                              obtain ⟨V_785, E_786, hV_787, hF_788, hE_789, hX_790, hw_791, hv_792, hP_793, hn_794, hk_795, hc_796⟩ := rd_use hx_780 hG_771
                              have hF_797 := FR.call (mds := []) (mas := []) hG_773 go_ mq0_ kq0_ rfl hF_788
                              have mxE_786 : E_786 ≤ 1202 := by have h9 := cF_le g ma0_ ka0_; have h8 : cF _ _ = _ := hE_789; omega
                              have hx_798 := exN.tr exN.rf hX_790
                              have hv_799 := exN.var hX_790 hv_760
                              have hd_800 := nmd_ex hX_790 hd_758
                              have hck_801 : cr_777 ≤ K_ := by omega
                              have b_802 : bd 0 2499 r_777 := ⟨hv_792.1, (by have h9 := hv_792.2.1; omega)⟩
                              have g := g.more hF_783
                              have h9c : cF fr_777 a0_ = _ := hE_789
                              subst hQ
                              exact iretX (v := r_777) hx hb hr (fun t ht hW => g_retZ g hK ⟨_, rfl, ⟨⟨_, hV_787, hF_797, hx_798, hw_791, hv_792, ⟨Or.inl hP_793, fun _ => hP_793⟩, (by omega), (by omega), (by omega)⟩, x_781, h_782, (g.fcts [0, 1] rfl)⟩⟩ ht hW) g.2.2.1.2.2 dX14_readName_316 hlocks
                    · have b_803 : bd 1000 1002 r_751 := ⟨h_757.1, h_757.2⟩
                      have hv_804 : varOK V_ r_751 o_.toNatClampNeg := Or.inr (Or.inl h_757)
                      refine lv_istore (lv' := [(10, .int r_751), (9, .int 0), (8, .int t_), (6, .long x_4), (4, .long x_3), (3, .int x_2), (0, .ref a0_), (1, .int x1_), (2, .int x2_)]) hx hb dX14_readName_283 hl (by decide) rfl (fun ls hl => ?_)
                      refine lv_aload_n hx hb dX14_readName_285 rfl (lv_at hl 6 rfl) ?_
                      refine lv_iload_n hx hb dX14_readName_286 rfl (lv_at hl 8 rfl) ?_
                      refine lv_if_eq (tgt := 298) hx hb dX14_readName_287 (by decide) (fun c_805 => ?_) (fun c_805 => ?_)
                      · have fc_805 := eq_f c_805
                        exact absurd fc_805 fc_560
                      · have fc_805 := neq_f c_805
                        refine lv_iload hx hb dX14_readName_290 (lv_at hl 0 rfl) ?_
                        refine lv_sipush (v := 1000) hx hb dX14_readName_292 (by decide) ?_
                        have kb_1000 : bd 1000 1000 (1000 : Int32) := ⟨by decide, by decide⟩
                        refine lv_icmp_ge (tgt := 302) hx hb dX14_readName_295 (by decide) (fun c_806 => ?_) (fun c_806 => ?_)
                        · have fc_806 := le_f c_806
                          refine lv_iconst (v := 0) hx hb dX14_readName_302 (by decide) ?_
                          refine lv_iconst (v := 5) hx hb dX14_readName_303 (by decide) ?_
                          refine lv_iload_n hx hb dX14_readName_304 rfl (lv_at hl 5 rfl) ?_
                          have hs_807 := sE_1 g 1 rfl (by have h9_0 := bo_; unfold bd at h9_0; have h9_1 := bop_; unfold bd at h9_1; have h9_2 := b_803; unfold bd at h9_2; have h9_3 := bso_; unfold bd at h9_3; have h9_4 := b_729; unfold bd at h9_4; have h9_5 := b_700; unfold bd at h9_5; have h9_6 := b_561; unfold bd at h9_6; have h9_7 := h_19; unfold bd at h9_7; have h9_8 := bx_2; unfold bd at h9_8; have h9_9 := b_710; unfold bd at h9_9; have h9_10 := h_9; unfold bd at h9_10; have h9_11 := b_742; unfold bd at h9_11; have h8_0 := kb_0; unfold bd at h8_0; have h8_1 := kb_1; unfold bd at h8_1; have h8_2 := kb_1000; unfold bd at h8_2; have h8_3 := kb_1200; unfold bd at h8_3; have h8_4 := kb_2000; unfold bd at h8_4; omega)
                          have go_ := g
                          refine g_callEv (As := [.int 0, .int 5, .int x_2]) (rest := []) ⟨hx, hb, hml, hown, hts⟩ (r_X14_need_2 l dC dI L kd tys fr_751 H.size g.2.2.2.1 a0_ ma0_ ka0_ 0 kb_0 5 x_2) (cwV 3 hts (gV_ t_2403 t_2405 t_100 t_198 t_2406) rfl rfl rfl (by decide +kernel) ⟨(show 1 + 1 ≤ N + 1 + 24 by omega), (show 8 + (4 + 11) + 22 ≤ 60 * (N + 1) + 700 by omega)⟩) (pre3V g hK ma0_ ka0_ (by decide) (q := (RX14, TX14, 67)) rfl) rfl hl.1 rfl (lv_room (Nat.le_of_ble_eq_true rfl)) dX14_readName_305 (cl_f hck_0) g hK (by decide) (by decide) (fx' := [(12, 58, q0_, .int y_741), (14, 6, a0_, .int x_18), (14, 10, a0_, .int x_8), (14, 2, a0_, .ref q0_), (14, 16, a0_, .int o_), (14, 25, a0_, .int op_)]) rfl (fun xr_808 fr_808 H locs mxr_808 kxr_808 hp hMr_808 g => ?_) (fun fr_808 H locs hp hMr_808 g => ?_)
                          · have hG_809 := isN.frame hMr_808 go_.2.2.2.1 ma0_ ka0_ (by decide) (by decide) hG_753
                            have hG_810 := cEq.frame hMr_808 go_.2.2.2.1 ma0_ ka0_ (by decide) (by decide) hG_754
                            have hG_811 := isV.frame hMr_808 go_.2.2.2.1 mq0_ kq0_ (by decide) (by decide) hG_755
                            have hG_812 := FR.frame hMr_808 go_.2.2.2.1 mq0_ kq0_ (by decide) (by decide) hG_756
                            subst hQ
                            exact leavesX hempty hlocks (fun t ht hW => g_thrZ g hK mxr_808 kxr_808 ⟨hG_812, (by omega)⟩ ht hW) g.2.2.1.2.2
                          · exact hp.elim
                        · have fc_806 := nle_f c_806
                          have b_813 : bd 1000 999 r_751 := ltL fc_806 b_803 kb_1000 (by decide)
                          exact bd_no b_813 (by decide)
                    · have b_814 : bd 2000 2007 r_751 := ⟨h_757.1, h_757.2⟩
                      have hv_815 : varOK V_ r_751 o_.toNatClampNeg := Or.inr (Or.inr h_757)
                      refine lv_istore (lv' := [(10, .int r_751), (9, .int 0), (8, .int t_), (6, .long x_4), (4, .long x_3), (3, .int x_2), (0, .ref a0_), (1, .int x1_), (2, .int x2_)]) hx hb dX14_readName_283 hl (by decide) rfl (fun ls hl => ?_)
                      refine lv_aload_n hx hb dX14_readName_285 rfl (lv_at hl 6 rfl) ?_
                      refine lv_iload_n hx hb dX14_readName_286 rfl (lv_at hl 8 rfl) ?_
                      refine lv_if_eq (tgt := 298) hx hb dX14_readName_287 (by decide) (fun c_816 => ?_) (fun c_816 => ?_)
                      · have fc_816 := eq_f c_816
                        exact absurd fc_816 fc_560
                      · have fc_816 := neq_f c_816
                        refine lv_iload hx hb dX14_readName_290 (lv_at hl 0 rfl) ?_
                        refine lv_sipush (v := 1000) hx hb dX14_readName_292 (by decide) ?_
                        have kb_1000 : bd 1000 1000 (1000 : Int32) := ⟨by decide, by decide⟩
                        refine lv_icmp_ge (tgt := 302) hx hb dX14_readName_295 (by decide) (fun c_817 => ?_) (fun c_817 => ?_)
                        · have fc_817 := le_f c_817
                          refine lv_iconst (v := 0) hx hb dX14_readName_302 (by decide) ?_
                          refine lv_iconst (v := 5) hx hb dX14_readName_303 (by decide) ?_
                          refine lv_iload_n hx hb dX14_readName_304 rfl (lv_at hl 5 rfl) ?_
                          have hs_818 := sE_1 g 1 rfl (by have h9_0 := bo_; unfold bd at h9_0; have h9_1 := bop_; unfold bd at h9_1; have h9_2 := b_814; unfold bd at h9_2; have h9_3 := bso_; unfold bd at h9_3; have h9_4 := b_729; unfold bd at h9_4; have h9_5 := b_700; unfold bd at h9_5; have h9_6 := b_561; unfold bd at h9_6; have h9_7 := h_19; unfold bd at h9_7; have h9_8 := bx_2; unfold bd at h9_8; have h9_9 := b_710; unfold bd at h9_9; have h9_10 := h_9; unfold bd at h9_10; have h9_11 := b_742; unfold bd at h9_11; have h8_0 := kb_0; unfold bd at h8_0; have h8_1 := kb_1; unfold bd at h8_1; have h8_2 := kb_1000; unfold bd at h8_2; have h8_3 := kb_1200; unfold bd at h8_3; have h8_4 := kb_2000; unfold bd at h8_4; omega)
                          have go_ := g
                          refine g_callEv (As := [.int 0, .int 5, .int x_2]) (rest := []) ⟨hx, hb, hml, hown, hts⟩ (r_X14_need_2 l dC dI L kd tys fr_751 H.size g.2.2.2.1 a0_ ma0_ ka0_ 0 kb_0 5 x_2) (cwV 3 hts (gV_ t_2403 t_2405 t_100 t_198 t_2406) rfl rfl rfl (by decide +kernel) ⟨(show 1 + 1 ≤ N + 1 + 24 by omega), (show 8 + (4 + 11) + 22 ≤ 60 * (N + 1) + 700 by omega)⟩) (pre3V g hK ma0_ ka0_ (by decide) (q := (RX14, TX14, 67)) rfl) rfl hl.1 rfl (lv_room (Nat.le_of_ble_eq_true rfl)) dX14_readName_305 (cl_f hck_0) g hK (by decide) (by decide) (fx' := [(12, 58, q0_, .int y_741), (14, 6, a0_, .int x_18), (14, 10, a0_, .int x_8), (14, 2, a0_, .ref q0_), (14, 16, a0_, .int o_), (14, 25, a0_, .int op_)]) rfl (fun xr_819 fr_819 H locs mxr_819 kxr_819 hp hMr_819 g => ?_) (fun fr_819 H locs hp hMr_819 g => ?_)
                          · have hG_820 := isN.frame hMr_819 go_.2.2.2.1 ma0_ ka0_ (by decide) (by decide) hG_753
                            have hG_821 := cEq.frame hMr_819 go_.2.2.2.1 ma0_ ka0_ (by decide) (by decide) hG_754
                            have hG_822 := isV.frame hMr_819 go_.2.2.2.1 mq0_ kq0_ (by decide) (by decide) hG_755
                            have hG_823 := FR.frame hMr_819 go_.2.2.2.1 mq0_ kq0_ (by decide) (by decide) hG_756
                            subst hQ
                            exact leavesX hempty hlocks (fun t ht hW => g_thrZ g hK mxr_819 kxr_819 ⟨hG_823, (by omega)⟩ ht hW) g.2.2.1.2.2
                          · exact hp.elim
                        · have fc_817 := nle_f c_817
                          have b_824 : bd 2000 999 r_751 := ltL fc_817 b_814 kb_1000 (by decide)
                          exact bd_no b_824 (by decide)
      refine lv_aload_n hx hb dX14_readName_47 rfl (lv_at hl 5 rfl) ?_
      refine lv_iload hx hb dX14_readName_48 (lv_at hl 0 rfl) ?_
      refine lv_if_eq (tgt := 71) hx hb dX14_readName_50 (by decide) (fun c_ => ?_) (fun c_ => absurd (by decide) c_)
      refine lv_aload_n hx hb dX14_readName_71 rfl (lv_at hl 5 rfl) ?_
      refine lv_lload hx hb dX14_readName_72 (lv_at hl 3 rfl) ?_
      refine lv_lload hx hb dX14_readName_74 (lv_at hl 2 rfl) ?_
      have hs_825 := sE_1 g 0 rfl (by have h9_0 := bo_; unfold bd at h9_0; have h9_1 := bop_; unfold bd at h9_1; have h9_2 := bso_; unfold bd at h9_2; have h9_3 := bt_; unfold bd at h9_3; have h9_4 := bx1_; unfold bd at h9_4; have h9_5 := b_561; unfold bd at h9_5; have h9_6 := h_19; unfold bd at h9_6; have h9_7 := bx_2; unfold bd at h9_7; have h9_8 := h_9; unfold bd at h9_8; have h8_0 := kb_0; unfold bd at h8_0; omega)
      have go_ := g
      refine g_calli (va_runV (As := [.long x_3, .long x_4]) (rest := [.ref a0_]) ⟨hx, hb, hml, hown, hts⟩ (r_X14_named_2 l dC dI L kd tys fr_15 H.size g.2.2.2.1 a0_ ma0_ ka0_ x_3 x_4 q0_ mq0_ kq0_ o_ bo_ V_ N_ hG_558 hG_556 (g.fcts [2, 3] rfl)) (cwV 2 hts (gV_ t_2504 t_2506 t_122 t_198 t_2507) rfl rfl rfl (by decide +kernel) ⟨(show 1 + 1 ≤ N + 1 + 24 by omega), (show 8 + (6 + 11) + 26 ≤ 60 * (N + 1) + 700 by omega)⟩) (pre3V g hK ma0_ ka0_ (by decide) (q := (RX14, TX14, 67)) rfl) rfl rfl hl.1 rfl (lv_room (Nat.le_of_ble_eq_true rfl)) dX14_readName_76 (cl_f hck_0)) g hK (by decide) (by decide) (fx' := [(14, 6, a0_, .int x_18), (14, 10, a0_, .int x_8), (14, 2, a0_, .ref q0_), (14, 16, a0_, .int o_), (14, 25, a0_, .int op_)]) rfl (fun r_826 fr_826 H locs hp hMr_826 g => ?_)
      obtain ⟨hx_827, -⟩ := hp
      have hG_828 := isV.frame hMr_826 go_.2.2.2.1 mq0_ kq0_ (by decide) (by decide) hG_556
      have hG_829 := FR.frame hMr_826 go_.2.2.2.1 mq0_ kq0_ (by decide) (by decide) hG_557
      have hG_830 := isN.frame hMr_826 go_.2.2.2.1 ma0_ ka0_ (by decide) (by decide) hG_558
      have hG_831 := cEq.frame hMr_826 go_.2.2.2.1 ma0_ ka0_ (by decide) (by decide) hG_559
      rcases hx_827 with ⟨h_832, hd_833⟩ | ⟨h_832 | h_832 | h_832, hd_833⟩
      · obtain rfl : r_826 = (-1) := Int32.toInt_inj.mp (h_832.trans (by decide))
        refine lv_iconst (v := (-1)) hx hb dX14_readName_79 (by decide) ?_
        refine lv_icmp_eq (tgt := 87) hx hb dX14_readName_80 (by decide) (fun c_ => ?_) (fun c_ => absurd (by decide) c_)
        refine lv_iconst (v := 0) hx hb dX14_readName_87 (by decide) ?_
        refine lv_iconst (v := 2) hx hb dX14_readName_88 (by decide) ?_
        refine lv_iload_n hx hb dX14_readName_89 rfl (lv_at hl 4 rfl) ?_
        have hs_834 := sE_1 g 0 rfl (by have h9_0 := bo_; unfold bd at h9_0; have h9_1 := bop_; unfold bd at h9_1; have h9_2 := bso_; unfold bd at h9_2; have h9_3 := bt_; unfold bd at h9_3; have h9_4 := bx1_; unfold bd at h9_4; have h9_5 := b_561; unfold bd at h9_5; have h9_6 := h_19; unfold bd at h9_6; have h9_7 := bx_2; unfold bd at h9_7; have h9_8 := h_9; unfold bd at h9_8; have h8_0 := kb_0; unfold bd at h8_0; omega)
        have go_ := g
        refine g_callEv (As := [.int 0, .int 2, .int x_2]) (rest := []) ⟨hx, hb, hml, hown, hts⟩ (r_X14_need_2 l dC dI L kd tys fr_826 H.size g.2.2.2.1 a0_ ma0_ ka0_ 0 kb_0 2 x_2) (cwV 3 hts (gV_ t_2403 t_2405 t_100 t_198 t_2406) rfl rfl rfl (by decide +kernel) ⟨(show 1 + 1 ≤ N + 1 + 24 by omega), (show 8 + (4 + 11) + 22 ≤ 60 * (N + 1) + 700 by omega)⟩) (pre3V g hK ma0_ ka0_ (by decide) (q := (RX14, TX14, 67)) rfl) rfl hl.1 rfl (lv_room (Nat.le_of_ble_eq_true rfl)) dX14_readName_90 (cl_f hck_0) g hK (by decide) (by decide) (fx' := [(14, 6, a0_, .int x_18), (14, 10, a0_, .int x_8), (14, 2, a0_, .ref q0_), (14, 16, a0_, .int o_), (14, 25, a0_, .int op_)]) rfl (fun xr_835 fr_835 H locs mxr_835 kxr_835 hp hMr_835 g => ?_) (fun fr_835 H locs hp hMr_835 g => ?_)
        · have hG_836 := isV.frame hMr_835 go_.2.2.2.1 mq0_ kq0_ (by decide) (by decide) hG_828
          have hG_837 := FR.frame hMr_835 go_.2.2.2.1 mq0_ kq0_ (by decide) (by decide) hG_829
          have hG_838 := isN.frame hMr_835 go_.2.2.2.1 ma0_ ka0_ (by decide) (by decide) hG_830
          have hG_839 := cEq.frame hMr_835 go_.2.2.2.1 ma0_ ka0_ (by decide) (by decide) hG_831
          subst hQ
          exact leavesX hempty hlocks (fun t ht hW => g_thrZ g hK mxr_835 kxr_835 ⟨hG_837, (by omega)⟩ ht hW) g.2.2.1.2.2
        · exact hp.elim
      · have b_840 : bd 0 9 r_826 := ⟨h_832.1, h_832.2.1⟩
        have hv_841 : varOK V_ r_826 o_.toNatClampNeg := Or.inl h_832
        refine lv_iconst (v := (-1)) hx hb dX14_readName_79 (by decide) ?_
        have kb_m1 : bd (-1) (-1) ((-1) : Int32) := ⟨by decide, by decide⟩
        refine lv_icmp_eq (tgt := 87) hx hb dX14_readName_80 (by decide) (fun c_842 => ?_) (fun c_842 => ?_)
        · have fc_842 := eq_f c_842
          have b_843 : bd 0 (-1) r_826 := eqX fc_842 b_840 kb_m1 (by decide)
          exact bd_no b_843 (by decide)
        · have fc_842 := neq_f c_842
          refine lv_iconst (v := 1) hx hb dX14_readName_83 (by decide) ?_
          refine lv_goto (tgt := 88) hx hb dX14_readName_84 (by decide) ?_
          refine lv_iconst (v := 2) hx hb dX14_readName_88 (by decide) ?_
          refine lv_iload_n hx hb dX14_readName_89 rfl (lv_at hl 4 rfl) ?_
          have hs_844 := sE_1 g 0 rfl (by have h9_0 := bo_; unfold bd at h9_0; have h9_1 := bop_; unfold bd at h9_1; have h9_2 := b_840; unfold bd at h9_2; have h9_3 := bso_; unfold bd at h9_3; have h9_4 := bt_; unfold bd at h9_4; have h9_5 := bx1_; unfold bd at h9_5; have h9_6 := b_561; unfold bd at h9_6; have h9_7 := h_19; unfold bd at h9_7; have h9_8 := bx_2; unfold bd at h9_8; have h9_9 := h_9; unfold bd at h9_9; have h8_0 := kb_0; unfold bd at h8_0; have h8_1 := kb_m1; unfold bd at h8_1; omega)
          have kb_1 : bd 1 1 (1 : Int32) := ⟨by decide, by decide⟩
          have go_ := g
          refine g_callEv (As := [.int 1, .int 2, .int x_2]) (rest := []) ⟨hx, hb, hml, hown, hts⟩ (r_X14_need_3 l dC dI L kd tys fr_826 H.size g.2.2.2.1 a0_ ma0_ ka0_ 1 kb_1 2 x_2) (cwV 3 hts (gV_ t_2403 t_2405 t_100 t_198 t_2406) rfl rfl rfl (by decide +kernel) ⟨(show 0 + 1 ≤ N + 1 + 24 by omega), (show 8 + (4 + 11) + 0 ≤ 60 * (N + 1) + 700 by omega)⟩) (pre3V g hK ma0_ ka0_ (by decide) (q := (RX14, TX14, 67)) rfl) rfl hl.1 rfl (lv_room (Nat.le_of_ble_eq_true rfl)) dX14_readName_90 (cl_f hck_0) g hK (by decide) (by decide) (fx' := [(14, 6, a0_, .int x_18), (14, 10, a0_, .int x_8), (14, 2, a0_, .ref q0_), (14, 16, a0_, .int o_), (14, 25, a0_, .int op_)]) rfl (fun xr_845 fr_845 H locs mxr_845 kxr_845 hp hMr_845 g => ?_) (fun fr_845 H locs hp hMr_845 g => ?_)
          · have hG_846 := isV.frame hMr_845 go_.2.2.2.1 mq0_ kq0_ (by decide) (by decide) hG_828
            have hG_847 := FR.frame hMr_845 go_.2.2.2.1 mq0_ kq0_ (by decide) (by decide) hG_829
            have hG_848 := isN.frame hMr_845 go_.2.2.2.1 ma0_ ka0_ (by decide) (by decide) hG_830
            have hG_849 := cEq.frame hMr_845 go_.2.2.2.1 ma0_ ka0_ (by decide) (by decide) hG_831
            exact hp.elim
          · have hG_850 := isV.frame hMr_845 go_.2.2.2.1 mq0_ kq0_ (by decide) (by decide) hG_828
            have hG_851 := FR.frame hMr_845 go_.2.2.2.1 mq0_ kq0_ (by decide) (by decide) hG_829
            have hG_852 := isN.frame hMr_845 go_.2.2.2.1 ma0_ ka0_ (by decide) (by decide) hG_830
            have hG_853 := cEq.frame hMr_845 go_.2.2.2.1 ma0_ ka0_ (by decide) (by decide) hG_831
            have hl9 := lv_sub hl [0, 1, 2, 3, 4, 5, 6, 7] (by rfl : lv_pick [(9, .int 0), (8, .int t_), (6, .long x_4), (4, .long x_3), (3, .int x_2), (0, .ref a0_), (1, .int x1_), (2, .int x2_)] [0, 1, 2, 3, 4, 5, 6, 7] = [(9, .int 0), (8, .int t_), (6, .long x_4), (4, .long x_3), (3, .int x_2), (0, .ref a0_), (1, .int x1_), (2, .int x2_)])
            have g9 := g.sub (fx' := [(14, 6, a0_, .int x_18), (14, 10, a0_, .int x_8), (14, 2, a0_, .ref q0_), (14, 16, a0_, .int o_), (14, 25, a0_, .int op_)]) [0, 1, 2, 3, 4] rfl
            exact join_562  _ _ _ _  g9 hG_850 hG_851 hG_852 hG_853 hd_833 hl9
      · have b_854 : bd 1000 1002 r_826 := ⟨h_832.1, h_832.2⟩
        have hv_855 : varOK V_ r_826 o_.toNatClampNeg := Or.inr (Or.inl h_832)
        refine lv_iconst (v := (-1)) hx hb dX14_readName_79 (by decide) ?_
        have kb_m1 : bd (-1) (-1) ((-1) : Int32) := ⟨by decide, by decide⟩
        refine lv_icmp_eq (tgt := 87) hx hb dX14_readName_80 (by decide) (fun c_856 => ?_) (fun c_856 => ?_)
        · have fc_856 := eq_f c_856
          have b_857 : bd 1000 (-1) r_826 := eqX fc_856 b_854 kb_m1 (by decide)
          exact bd_no b_857 (by decide)
        · have fc_856 := neq_f c_856
          refine lv_iconst (v := 1) hx hb dX14_readName_83 (by decide) ?_
          refine lv_goto (tgt := 88) hx hb dX14_readName_84 (by decide) ?_
          refine lv_iconst (v := 2) hx hb dX14_readName_88 (by decide) ?_
          refine lv_iload_n hx hb dX14_readName_89 rfl (lv_at hl 4 rfl) ?_
          have hs_858 := sE_1 g 0 rfl (by have h9_0 := bo_; unfold bd at h9_0; have h9_1 := bop_; unfold bd at h9_1; have h9_2 := b_854; unfold bd at h9_2; have h9_3 := bso_; unfold bd at h9_3; have h9_4 := bt_; unfold bd at h9_4; have h9_5 := bx1_; unfold bd at h9_5; have h9_6 := b_561; unfold bd at h9_6; have h9_7 := h_19; unfold bd at h9_7; have h9_8 := bx_2; unfold bd at h9_8; have h9_9 := h_9; unfold bd at h9_9; have h8_0 := kb_0; unfold bd at h8_0; have h8_1 := kb_m1; unfold bd at h8_1; omega)
          have kb_1 : bd 1 1 (1 : Int32) := ⟨by decide, by decide⟩
          have go_ := g
          refine g_callEv (As := [.int 1, .int 2, .int x_2]) (rest := []) ⟨hx, hb, hml, hown, hts⟩ (r_X14_need_3 l dC dI L kd tys fr_826 H.size g.2.2.2.1 a0_ ma0_ ka0_ 1 kb_1 2 x_2) (cwV 3 hts (gV_ t_2403 t_2405 t_100 t_198 t_2406) rfl rfl rfl (by decide +kernel) ⟨(show 0 + 1 ≤ N + 1 + 24 by omega), (show 8 + (4 + 11) + 0 ≤ 60 * (N + 1) + 700 by omega)⟩) (pre3V g hK ma0_ ka0_ (by decide) (q := (RX14, TX14, 67)) rfl) rfl hl.1 rfl (lv_room (Nat.le_of_ble_eq_true rfl)) dX14_readName_90 (cl_f hck_0) g hK (by decide) (by decide) (fx' := [(14, 6, a0_, .int x_18), (14, 10, a0_, .int x_8), (14, 2, a0_, .ref q0_), (14, 16, a0_, .int o_), (14, 25, a0_, .int op_)]) rfl (fun xr_859 fr_859 H locs mxr_859 kxr_859 hp hMr_859 g => ?_) (fun fr_859 H locs hp hMr_859 g => ?_)
          · have hG_860 := isV.frame hMr_859 go_.2.2.2.1 mq0_ kq0_ (by decide) (by decide) hG_828
            have hG_861 := FR.frame hMr_859 go_.2.2.2.1 mq0_ kq0_ (by decide) (by decide) hG_829
            have hG_862 := isN.frame hMr_859 go_.2.2.2.1 ma0_ ka0_ (by decide) (by decide) hG_830
            have hG_863 := cEq.frame hMr_859 go_.2.2.2.1 ma0_ ka0_ (by decide) (by decide) hG_831
            exact hp.elim
          · have hG_864 := isV.frame hMr_859 go_.2.2.2.1 mq0_ kq0_ (by decide) (by decide) hG_828
            have hG_865 := FR.frame hMr_859 go_.2.2.2.1 mq0_ kq0_ (by decide) (by decide) hG_829
            have hG_866 := isN.frame hMr_859 go_.2.2.2.1 ma0_ ka0_ (by decide) (by decide) hG_830
            have hG_867 := cEq.frame hMr_859 go_.2.2.2.1 ma0_ ka0_ (by decide) (by decide) hG_831
            have hl9 := lv_sub hl [0, 1, 2, 3, 4, 5, 6, 7] (by rfl : lv_pick [(9, .int 0), (8, .int t_), (6, .long x_4), (4, .long x_3), (3, .int x_2), (0, .ref a0_), (1, .int x1_), (2, .int x2_)] [0, 1, 2, 3, 4, 5, 6, 7] = [(9, .int 0), (8, .int t_), (6, .long x_4), (4, .long x_3), (3, .int x_2), (0, .ref a0_), (1, .int x1_), (2, .int x2_)])
            have g9 := g.sub (fx' := [(14, 6, a0_, .int x_18), (14, 10, a0_, .int x_8), (14, 2, a0_, .ref q0_), (14, 16, a0_, .int o_), (14, 25, a0_, .int op_)]) [0, 1, 2, 3, 4] rfl
            exact join_562  _ _ _ _  g9 hG_864 hG_865 hG_866 hG_867 hd_833 hl9
      · have b_868 : bd 2000 2007 r_826 := ⟨h_832.1, h_832.2⟩
        have hv_869 : varOK V_ r_826 o_.toNatClampNeg := Or.inr (Or.inr h_832)
        refine lv_iconst (v := (-1)) hx hb dX14_readName_79 (by decide) ?_
        have kb_m1 : bd (-1) (-1) ((-1) : Int32) := ⟨by decide, by decide⟩
        refine lv_icmp_eq (tgt := 87) hx hb dX14_readName_80 (by decide) (fun c_870 => ?_) (fun c_870 => ?_)
        · have fc_870 := eq_f c_870
          have b_871 : bd 2000 (-1) r_826 := eqX fc_870 b_868 kb_m1 (by decide)
          exact bd_no b_871 (by decide)
        · have fc_870 := neq_f c_870
          refine lv_iconst (v := 1) hx hb dX14_readName_83 (by decide) ?_
          refine lv_goto (tgt := 88) hx hb dX14_readName_84 (by decide) ?_
          refine lv_iconst (v := 2) hx hb dX14_readName_88 (by decide) ?_
          refine lv_iload_n hx hb dX14_readName_89 rfl (lv_at hl 4 rfl) ?_
          have hs_872 := sE_1 g 0 rfl (by have h9_0 := bo_; unfold bd at h9_0; have h9_1 := bop_; unfold bd at h9_1; have h9_2 := b_868; unfold bd at h9_2; have h9_3 := bso_; unfold bd at h9_3; have h9_4 := bt_; unfold bd at h9_4; have h9_5 := bx1_; unfold bd at h9_5; have h9_6 := b_561; unfold bd at h9_6; have h9_7 := h_19; unfold bd at h9_7; have h9_8 := bx_2; unfold bd at h9_8; have h9_9 := h_9; unfold bd at h9_9; have h8_0 := kb_0; unfold bd at h8_0; have h8_1 := kb_m1; unfold bd at h8_1; omega)
          have kb_1 : bd 1 1 (1 : Int32) := ⟨by decide, by decide⟩
          have go_ := g
          refine g_callEv (As := [.int 1, .int 2, .int x_2]) (rest := []) ⟨hx, hb, hml, hown, hts⟩ (r_X14_need_3 l dC dI L kd tys fr_826 H.size g.2.2.2.1 a0_ ma0_ ka0_ 1 kb_1 2 x_2) (cwV 3 hts (gV_ t_2403 t_2405 t_100 t_198 t_2406) rfl rfl rfl (by decide +kernel) ⟨(show 0 + 1 ≤ N + 1 + 24 by omega), (show 8 + (4 + 11) + 0 ≤ 60 * (N + 1) + 700 by omega)⟩) (pre3V g hK ma0_ ka0_ (by decide) (q := (RX14, TX14, 67)) rfl) rfl hl.1 rfl (lv_room (Nat.le_of_ble_eq_true rfl)) dX14_readName_90 (cl_f hck_0) g hK (by decide) (by decide) (fx' := [(14, 6, a0_, .int x_18), (14, 10, a0_, .int x_8), (14, 2, a0_, .ref q0_), (14, 16, a0_, .int o_), (14, 25, a0_, .int op_)]) rfl (fun xr_873 fr_873 H locs mxr_873 kxr_873 hp hMr_873 g => ?_) (fun fr_873 H locs hp hMr_873 g => ?_)
          · have hG_874 := isV.frame hMr_873 go_.2.2.2.1 mq0_ kq0_ (by decide) (by decide) hG_828
            have hG_875 := FR.frame hMr_873 go_.2.2.2.1 mq0_ kq0_ (by decide) (by decide) hG_829
            have hG_876 := isN.frame hMr_873 go_.2.2.2.1 ma0_ ka0_ (by decide) (by decide) hG_830
            have hG_877 := cEq.frame hMr_873 go_.2.2.2.1 ma0_ ka0_ (by decide) (by decide) hG_831
            exact hp.elim
          · have hG_878 := isV.frame hMr_873 go_.2.2.2.1 mq0_ kq0_ (by decide) (by decide) hG_828
            have hG_879 := FR.frame hMr_873 go_.2.2.2.1 mq0_ kq0_ (by decide) (by decide) hG_829
            have hG_880 := isN.frame hMr_873 go_.2.2.2.1 ma0_ ka0_ (by decide) (by decide) hG_830
            have hG_881 := cEq.frame hMr_873 go_.2.2.2.1 ma0_ ka0_ (by decide) (by decide) hG_831
            have hl9 := lv_sub hl [0, 1, 2, 3, 4, 5, 6, 7] (by rfl : lv_pick [(9, .int 0), (8, .int t_), (6, .long x_4), (4, .long x_3), (3, .int x_2), (0, .ref a0_), (1, .int x1_), (2, .int x2_)] [0, 1, 2, 3, 4, 5, 6, 7] = [(9, .int 0), (8, .int t_), (6, .long x_4), (4, .long x_3), (3, .int x_2), (0, .ref a0_), (1, .int x1_), (2, .int x2_)])
            have g9 := g.sub (fx' := [(14, 6, a0_, .int x_18), (14, 10, a0_, .int x_8), (14, 2, a0_, .ref q0_), (14, 16, a0_, .int o_), (14, 25, a0_, .int op_)]) [0, 1, 2, 3, 4] rfl
            exact join_562  _ _ _ _  g9 hG_878 hG_879 hG_880 hG_881 hd_833 hl9
    · have fc_560 := eq_f c_560
      have b_882 : bd 0 0 x2_ := eqX fc_560 bx2_ kb_0 (by decide)
      refine lv_iconst (v := 1) hx hb dX14_readName_40 (by decide) ?_
      refine lv_goto (tgt := 45) hx hb dX14_readName_41 (by decide) ?_
      refine lv_istore (lv' := [(9, .int 1), (8, .int t_), (6, .long x_4), (4, .long x_3), (3, .int x_2), (0, .ref a0_), (1, .int x1_), (2, .int x2_)]) hx hb dX14_readName_45 hl (by decide) rfl (fun ls hl => ?_)
      refine lv_aload_n hx hb dX14_readName_47 rfl (lv_at hl 5 rfl) ?_
      refine lv_iload hx hb dX14_readName_48 (lv_at hl 0 rfl) ?_
      refine lv_if_eq (tgt := 71) hx hb dX14_readName_50 (by decide) (fun c_ => absurd c_ (by decide)) (fun c_ => ?_)
      refine lv_aload_n hx hb dX14_readName_53 rfl (lv_at hl 5 rfl) ?_
      refine g_getk (C := RX14) (T := TX14) (N := 67) hx hb hts (mc_ inX14) hown hK g rfl 2 (by decide) rfl (hts _ (List.mem_cons_of_mem _ t_2148)) (fun _ h9 => h9) 2 rfl dX14_readName_54 ?_
      refine lv_aload_n hx hb dX14_readName_57 rfl (lv_at hl 5 rfl) ?_
      refine g_getk (C := RX14) (T := TX14) (N := 67) hx hb hts (mc_ inX14) hown hK g rfl 16 (by decide) rfl (hts _ (List.mem_cons_of_mem _ t_2162)) (fun _ h9 => h9) 3 rfl dX14_readName_58 ?_
      refine lv_lload hx hb dX14_readName_61 (lv_at hl 3 rfl) ?_
      refine lv_lload hx hb dX14_readName_63 (lv_at hl 2 rfl) ?_
      have hs_883 := sE_1 g 0 rfl (by have h9_0 := bo_; unfold bd at h9_0; have h9_1 := bop_; unfold bd at h9_1; have h9_2 := bso_; unfold bd at h9_2; have h9_3 := bt_; unfold bd at h9_3; have h9_4 := bx1_; unfold bd at h9_4; have h9_5 := b_882; unfold bd at h9_5; have h9_6 := h_19; unfold bd at h9_6; have h9_7 := bx_2; unfold bd at h9_7; have h9_8 := h_9; unfold bd at h9_8; have h8_0 := kb_0; unfold bd at h8_0; omega)
      have go_ := g
      refine g_calli (va_runV (As := [.int o_, .long x_3, .long x_4]) (rest := [.ref a0_]) ⟨hx, hb, hml, hown, hts⟩ (r_X12_findN l dC dI L kd tys fr_15 H.size g.2.2.2.1 q0_ mq0_ kq0_ o_ (bd_sub bo_ (by decide)) x_3 x_4 V_ hG_556) (cwV 3 hts (gV_ t_2500 t_2501 t_2502 t_203 t_2503) rfl rfl rfl (by decide +kernel) ⟨(show 0 + 1 ≤ N + 1 + 24 by omega), (show 8 + (7 + 11) + 0 ≤ 60 * (N + 1) + 700 by omega)⟩) (pre3V g hK mq0_ kq0_ (by decide) (q := (RX12, TX12, 60)) rfl) rfl rfl hl.1 rfl (lv_room (Nat.le_of_ble_eq_true rfl)) dX14_readName_65 (cl_f hck_0)) g hK (by decide) (by decide) (fx' := [(14, 6, a0_, .int x_18), (14, 10, a0_, .int x_8), (14, 2, a0_, .ref q0_), (14, 16, a0_, .int o_), (14, 25, a0_, .int op_)]) rfl (fun r_884 fr_884 H locs hp hMr_884 g => ?_)
      rcases hp with ⟨hx_885, h_886, -⟩ | ⟨hx_887, h_888, -⟩
      · have hG_889 := isV.frame hMr_884 go_.2.2.2.1 mq0_ kq0_ (by decide) (by decide) hG_556
        have hG_890 := FR.frame hMr_884 go_.2.2.2.1 mq0_ kq0_ (by decide) (by decide) hG_557
        have hG_891 := isN.frame hMr_884 go_.2.2.2.1 ma0_ ka0_ (by decide) (by decide) hG_558
        have hG_892 := cEq.frame hMr_884 go_.2.2.2.1 ma0_ ka0_ (by decide) (by decide) hG_559
        obtain rfl : r_884 = (-1) := h_886
        refine lv_goto (tgt := 79) hx hb dX14_readName_68 (by decide) ?_
        refine lv_iconst (v := (-1)) hx hb dX14_readName_79 (by decide) ?_
        refine lv_icmp_eq (tgt := 87) hx hb dX14_readName_80 (by decide) (fun c_ => ?_) (fun c_ => absurd (by decide) c_)
        refine lv_iconst (v := 0) hx hb dX14_readName_87 (by decide) ?_
        refine lv_iconst (v := 2) hx hb dX14_readName_88 (by decide) ?_
        refine lv_iload_n hx hb dX14_readName_89 rfl (lv_at hl 4 rfl) ?_
        have hs_893 := sE_1 g 0 rfl (by have h9_0 := bo_; unfold bd at h9_0; have h9_1 := bop_; unfold bd at h9_1; have h9_2 := bso_; unfold bd at h9_2; have h9_3 := bt_; unfold bd at h9_3; have h9_4 := bx1_; unfold bd at h9_4; have h9_5 := b_882; unfold bd at h9_5; have h9_6 := h_19; unfold bd at h9_6; have h9_7 := bx_2; unfold bd at h9_7; have h9_8 := h_9; unfold bd at h9_8; have h8_0 := kb_0; unfold bd at h8_0; omega)
        have go_ := g
        refine g_callEv (As := [.int 0, .int 2, .int x_2]) (rest := []) ⟨hx, hb, hml, hown, hts⟩ (r_X14_need_2 l dC dI L kd tys fr_884 H.size g.2.2.2.1 a0_ ma0_ ka0_ 0 kb_0 2 x_2) (cwV 3 hts (gV_ t_2403 t_2405 t_100 t_198 t_2406) rfl rfl rfl (by decide +kernel) ⟨(show 1 + 1 ≤ N + 1 + 24 by omega), (show 8 + (4 + 11) + 22 ≤ 60 * (N + 1) + 700 by omega)⟩) (pre3V g hK ma0_ ka0_ (by decide) (q := (RX14, TX14, 67)) rfl) rfl hl.1 rfl (lv_room (Nat.le_of_ble_eq_true rfl)) dX14_readName_90 (cl_f hck_0) g hK (by decide) (by decide) (fx' := [(14, 6, a0_, .int x_18), (14, 10, a0_, .int x_8), (14, 2, a0_, .ref q0_), (14, 16, a0_, .int o_), (14, 25, a0_, .int op_)]) rfl (fun xr_894 fr_894 H locs mxr_894 kxr_894 hp hMr_894 g => ?_) (fun fr_894 H locs hp hMr_894 g => ?_)
        · have hG_895 := isV.frame hMr_894 go_.2.2.2.1 mq0_ kq0_ (by decide) (by decide) hG_889
          have hG_896 := FR.frame hMr_894 go_.2.2.2.1 mq0_ kq0_ (by decide) (by decide) hG_890
          have hG_897 := isN.frame hMr_894 go_.2.2.2.1 ma0_ ka0_ (by decide) (by decide) hG_891
          have hG_898 := cEq.frame hMr_894 go_.2.2.2.1 ma0_ ka0_ (by decide) (by decide) hG_892
          subst hQ
          exact leavesX hempty hlocks (fun t ht hW => g_thrZ g hK mxr_894 kxr_894 ⟨hG_896, (by omega)⟩ ht hW) g.2.2.1.2.2
        · exact hp.elim
      · have hG_899 := isV.frame hMr_884 go_.2.2.2.1 mq0_ kq0_ (by decide) (by decide) hG_556
        have hG_900 := FR.frame hMr_884 go_.2.2.2.1 mq0_ kq0_ (by decide) (by decide) hG_557
        have hG_901 := isN.frame hMr_884 go_.2.2.2.1 ma0_ ka0_ (by decide) (by decide) hG_558
        have hG_902 := cEq.frame hMr_884 go_.2.2.2.1 ma0_ ka0_ (by decide) (by decide) hG_559
        have hf_903 := hx_887.fnd_
        refine lv_goto (tgt := 79) hx hb dX14_readName_68 (by decide) ?_
        refine lv_iconst (v := (-1)) hx hb dX14_readName_79 (by decide) ?_
        have kb_m1 : bd (-1) (-1) ((-1) : Int32) := ⟨by decide, by decide⟩
        refine lv_icmp_eq (tgt := 87) hx hb dX14_readName_80 (by decide) (fun c_904 => ?_) (fun c_904 => ?_)
        · have fc_904 := eq_f c_904
          have b_905 : bd 0 (-1) r_884 := eqX fc_904 h_888 kb_m1 (by decide)
          exact bd_no b_905 (by decide)
        · have fc_904 := neq_f c_904
          refine lv_iconst (v := 1) hx hb dX14_readName_83 (by decide) ?_
          refine lv_goto (tgt := 88) hx hb dX14_readName_84 (by decide) ?_
          refine lv_iconst (v := 2) hx hb dX14_readName_88 (by decide) ?_
          refine lv_iload_n hx hb dX14_readName_89 rfl (lv_at hl 4 rfl) ?_
          have hs_906 := sE_1 g 0 rfl (by have h9_0 := bo_; unfold bd at h9_0; have h9_1 := bop_; unfold bd at h9_1; have h9_2 := h_888; unfold bd at h9_2; have h9_3 := bso_; unfold bd at h9_3; have h9_4 := bt_; unfold bd at h9_4; have h9_5 := bx1_; unfold bd at h9_5; have h9_6 := b_882; unfold bd at h9_6; have h9_7 := h_19; unfold bd at h9_7; have h9_8 := bx_2; unfold bd at h9_8; have h9_9 := h_9; unfold bd at h9_9; have h8_0 := kb_0; unfold bd at h8_0; have h8_1 := kb_m1; unfold bd at h8_1; omega)
          have kb_1 : bd 1 1 (1 : Int32) := ⟨by decide, by decide⟩
          have go_ := g
          refine g_callEv (As := [.int 1, .int 2, .int x_2]) (rest := []) ⟨hx, hb, hml, hown, hts⟩ (r_X14_need_3 l dC dI L kd tys fr_884 H.size g.2.2.2.1 a0_ ma0_ ka0_ 1 kb_1 2 x_2) (cwV 3 hts (gV_ t_2403 t_2405 t_100 t_198 t_2406) rfl rfl rfl (by decide +kernel) ⟨(show 0 + 1 ≤ N + 1 + 24 by omega), (show 8 + (4 + 11) + 0 ≤ 60 * (N + 1) + 700 by omega)⟩) (pre3V g hK ma0_ ka0_ (by decide) (q := (RX14, TX14, 67)) rfl) rfl hl.1 rfl (lv_room (Nat.le_of_ble_eq_true rfl)) dX14_readName_90 (cl_f hck_0) g hK (by decide) (by decide) (fx' := [(14, 6, a0_, .int x_18), (14, 10, a0_, .int x_8), (14, 2, a0_, .ref q0_), (14, 16, a0_, .int o_), (14, 25, a0_, .int op_)]) rfl (fun xr_907 fr_907 H locs mxr_907 kxr_907 hp hMr_907 g => ?_) (fun fr_907 H locs hp hMr_907 g => ?_)
          · have hG_908 := isV.frame hMr_907 go_.2.2.2.1 mq0_ kq0_ (by decide) (by decide) hG_899
            have hG_909 := FR.frame hMr_907 go_.2.2.2.1 mq0_ kq0_ (by decide) (by decide) hG_900
            have hG_910 := isN.frame hMr_907 go_.2.2.2.1 ma0_ ka0_ (by decide) (by decide) hG_901
            have hG_911 := cEq.frame hMr_907 go_.2.2.2.1 ma0_ ka0_ (by decide) (by decide) hG_902
            exact hp.elim
          · have hG_912 := isV.frame hMr_907 go_.2.2.2.1 mq0_ kq0_ (by decide) (by decide) hG_899
            have hG_913 := FR.frame hMr_907 go_.2.2.2.1 mq0_ kq0_ (by decide) (by decide) hG_900
            have hG_914 := isN.frame hMr_907 go_.2.2.2.1 ma0_ ka0_ (by decide) (by decide) hG_901
            have hG_915 := cEq.frame hMr_907 go_.2.2.2.1 ma0_ ka0_ (by decide) (by decide) hG_902
            refine lv_aload_n hx hb dX14_readName_93 rfl (lv_at hl 5 rfl) ?_
            refine lv_iload_n hx hb dX14_readName_94 rfl (lv_at hl 6 rfl) ?_
            refine lv_if_eq (tgt := 119) hx hb dX14_readName_95 (by decide) (fun c_916 => ?_) (fun c_916 => ?_)
            · have fc_916 := eq_f c_916
              have b_917 : bd 0 0 x1_ := eqX fc_916 bx1_ kb_0 (by decide)
              refine lv_aload_n hx hb dX14_readName_119 rfl (lv_at hl 5 rfl) ?_
              refine g_getk (C := RX14) (T := TX14) (N := 67) hx hb hts (mc_ inX14) hown hK g rfl 2 (by decide) rfl (hts _ (List.mem_cons_of_mem _ t_2148)) (fun _ h9 => h9) 2 rfl dX14_readName_120 ?_
              refine g_getr (K := 180) (C := RX12) (T := TX12) (N := 60) hx hb hts (mc_ inX12) hown hK g mq0_ kq0_ (by decide) rfl 24 (by decide) rfl (hts _ (List.mem_cons_of_mem _ t_1954)) (fun _ h9 => h9) rfl dX14_readName_123 (fun a_918 ma_918 ka_918 g => ?_)
              refine lv_aload_n hx hb dX14_readName_126 rfl (lv_at hl 5 rfl) ?_
              refine g_geti (C := RX14) (T := TX14) (N := 67) hx hb hts (mc_ inX14) hown hK g ma0_ ka0_ (by decide) rfl 17 (by decide) rfl (hts _ (List.mem_cons_of_mem _ t_2163)) (fun _ h9 => h9) rfl dX14_readName_127 (fun x_919 bx_919 g => ?_)
              refine g_iald hx hb hK g ma_918 ka_918 (by decide) rfl (in_bd bx_919 (by decide)) dX14_readName_130 (fun x_920 bx_920 cx_920 => ?_)
              have vx_920 : x_920 = V_.i 24 x_919.toNatClampNeg := hG_912.at g 1 rfl rfl cx_920
              refine lv_bipush (v := 40) hx hb dX14_readName_131 (by decide) ?_
              have kb_40 : bd 40 40 (40 : Int32) := ⟨by decide, by decide⟩
              refine lv_icmp_ge (tgt := 140) hx hb dX14_readName_133 (by decide) (fun c_921 => ?_) (fun c_921 => ?_)
              · have fc_921 := le_f c_921
                have b_922 : bd 40 40 x_920 := leR fc_921 kb_40 bx_920 (by decide)
                refine lv_iconst (v := 0) hx hb dX14_readName_140 (by decide) ?_
                refine lv_iconst (v := 4) hx hb dX14_readName_141 (by decide) ?_
                refine lv_iload_n hx hb dX14_readName_142 rfl (lv_at hl 4 rfl) ?_
                have hs_923 := sE_1 g 2 rfl (by have h9_0 := bo_; unfold bd at h9_0; have h9_1 := bop_; unfold bd at h9_1; have h9_2 := h_888; unfold bd at h9_2; have h9_3 := bso_; unfold bd at h9_3; have h9_4 := bt_; unfold bd at h9_4; have h9_5 := b_917; unfold bd at h9_5; have h9_6 := b_882; unfold bd at h9_6; have h9_7 := h_19; unfold bd at h9_7; have h9_8 := bx_2; unfold bd at h9_8; have h9_9 := h_9; unfold bd at h9_9; have h9_10 := bx_919; unfold bd at h9_10; have h9_11 := b_922; unfold bd at h9_11; have h8_0 := kb_0; unfold bd at h8_0; have h8_1 := kb_1; unfold bd at h8_1; have h8_2 := kb_40; unfold bd at h8_2; have h8_3 := kb_m1; unfold bd at h8_3; omega)
                have go_ := g
                refine g_callEv (As := [.int 0, .int 4, .int x_2]) (rest := []) ⟨hx, hb, hml, hown, hts⟩ (r_X14_need_2 l dC dI L kd tys fr_907 H.size g.2.2.2.1 a0_ ma0_ ka0_ 0 kb_0 4 x_2) (cwV 3 hts (gV_ t_2403 t_2405 t_100 t_198 t_2406) rfl rfl rfl (by decide +kernel) ⟨(show 1 + 1 ≤ N + 1 + 24 by omega), (show 8 + (4 + 11) + 22 ≤ 60 * (N + 1) + 700 by omega)⟩) (pre3V g hK ma0_ ka0_ (by decide) (q := (RX14, TX14, 67)) rfl) rfl hl.1 rfl (lv_room (Nat.le_of_ble_eq_true rfl)) dX14_readName_143 (cl_f hck_0) g hK (by decide) (by decide) (fx' := [(14, 17, a0_, .int x_919), (12, 24, q0_, .ref a_918), (14, 6, a0_, .int x_18), (14, 10, a0_, .int x_8), (14, 2, a0_, .ref q0_), (14, 16, a0_, .int o_), (14, 25, a0_, .int op_)]) rfl (fun xr_924 fr_924 H locs mxr_924 kxr_924 hp hMr_924 g => ?_) (fun fr_924 H locs hp hMr_924 g => ?_)
                · have hG_925 := isV.frame hMr_924 go_.2.2.2.1 mq0_ kq0_ (by decide) (by decide) hG_912
                  have hG_926 := FR.frame hMr_924 go_.2.2.2.1 mq0_ kq0_ (by decide) (by decide) hG_913
                  have hG_927 := isN.frame hMr_924 go_.2.2.2.1 ma0_ ka0_ (by decide) (by decide) hG_914
                  have hG_928 := cEq.frame hMr_924 go_.2.2.2.1 ma0_ ka0_ (by decide) (by decide) hG_915
                  subst hQ
                  exact leavesX hempty hlocks (fun t ht hW => g_thrZ g hK mxr_924 kxr_924 ⟨hG_926, (by omega)⟩ ht hW) g.2.2.1.2.2
                · exact hp.elim
              · have fc_921 := nle_f c_921
                have b_929 : bd 0 39 x_920 := ltL fc_921 bx_920 kb_40 (by decide)
                refine lv_iconst (v := 1) hx hb dX14_readName_136 (by decide) ?_
                refine lv_goto (tgt := 141) hx hb dX14_readName_137 (by decide) ?_
                refine lv_iconst (v := 4) hx hb dX14_readName_141 (by decide) ?_
                refine lv_iload_n hx hb dX14_readName_142 rfl (lv_at hl 4 rfl) ?_
                have hs_930 := sE_1 g 2 rfl (by have h9_0 := bo_; unfold bd at h9_0; have h9_1 := bop_; unfold bd at h9_1; have h9_2 := h_888; unfold bd at h9_2; have h9_3 := bso_; unfold bd at h9_3; have h9_4 := bt_; unfold bd at h9_4; have h9_5 := b_917; unfold bd at h9_5; have h9_6 := b_882; unfold bd at h9_6; have h9_7 := h_19; unfold bd at h9_7; have h9_8 := bx_2; unfold bd at h9_8; have h9_9 := h_9; unfold bd at h9_9; have h9_10 := bx_919; unfold bd at h9_10; have h9_11 := b_929; unfold bd at h9_11; have h8_0 := kb_0; unfold bd at h8_0; have h8_1 := kb_1; unfold bd at h8_1; have h8_2 := kb_40; unfold bd at h8_2; have h8_3 := kb_m1; unfold bd at h8_3; omega)
                have go_ := g
                refine g_callEv (As := [.int 1, .int 4, .int x_2]) (rest := []) ⟨hx, hb, hml, hown, hts⟩ (r_X14_need_3 l dC dI L kd tys fr_907 H.size g.2.2.2.1 a0_ ma0_ ka0_ 1 kb_1 4 x_2) (cwV 3 hts (gV_ t_2403 t_2405 t_100 t_198 t_2406) rfl rfl rfl (by decide +kernel) ⟨(show 0 + 1 ≤ N + 1 + 24 by omega), (show 8 + (4 + 11) + 0 ≤ 60 * (N + 1) + 700 by omega)⟩) (pre3V g hK ma0_ ka0_ (by decide) (q := (RX14, TX14, 67)) rfl) rfl hl.1 rfl (lv_room (Nat.le_of_ble_eq_true rfl)) dX14_readName_143 (cl_f hck_0) g hK (by decide) (by decide) (fx' := [(14, 17, a0_, .int x_919), (12, 24, q0_, .ref a_918), (14, 6, a0_, .int x_18), (14, 10, a0_, .int x_8), (14, 2, a0_, .ref q0_), (14, 16, a0_, .int o_), (14, 25, a0_, .int op_)]) rfl (fun xr_931 fr_931 H locs mxr_931 kxr_931 hp hMr_931 g => ?_) (fun fr_931 H locs hp hMr_931 g => ?_)
                · have hG_932 := isV.frame hMr_931 go_.2.2.2.1 mq0_ kq0_ (by decide) (by decide) hG_912
                  have hG_933 := FR.frame hMr_931 go_.2.2.2.1 mq0_ kq0_ (by decide) (by decide) hG_913
                  have hG_934 := isN.frame hMr_931 go_.2.2.2.1 ma0_ ka0_ (by decide) (by decide) hG_914
                  have hG_935 := cEq.frame hMr_931 go_.2.2.2.1 ma0_ ka0_ (by decide) (by decide) hG_915
                  exact hp.elim
                · have hG_936 := isV.frame hMr_931 go_.2.2.2.1 mq0_ kq0_ (by decide) (by decide) hG_912
                  have hG_937 := FR.frame hMr_931 go_.2.2.2.1 mq0_ kq0_ (by decide) (by decide) hG_913
                  have hG_938 := isN.frame hMr_931 go_.2.2.2.1 ma0_ ka0_ (by decide) (by decide) hG_914
                  have hG_939 := cEq.frame hMr_931 go_.2.2.2.1 ma0_ ka0_ (by decide) (by decide) hG_915
                  refine lv_aload_n hx hb dX14_readName_146 rfl (lv_at hl 5 rfl) ?_
                  refine lv_iload hx hb dX14_readName_147 (lv_at hl 1 rfl) ?_
                  refine lv_sipush (v := 1200) hx hb dX14_readName_149 (by decide) ?_
                  have kb_1200 : bd 1200 1200 (1200 : Int32) := ⟨by decide, by decide⟩
                  refine lv_icmp_gt (tgt := 159) hx hb dX14_readName_152 (by decide) (fun c_940 => ?_) (fun c_940 => ?_)
                  · have fc_940 := lt_f c_940
                    have b_941 : bd 1201 1201 t_ := ltR fc_940 kb_1200 bt_ (by decide)
                    refine lv_iconst (v := 0) hx hb dX14_readName_159 (by decide) ?_
                    refine lv_iconst (v := 4) hx hb dX14_readName_160 (by decide) ?_
                    refine lv_iload_n hx hb dX14_readName_161 rfl (lv_at hl 4 rfl) ?_
                    have hs_942 := sE_1 g 2 rfl (by have h9_0 := bo_; unfold bd at h9_0; have h9_1 := bop_; unfold bd at h9_1; have h9_2 := h_888; unfold bd at h9_2; have h9_3 := bso_; unfold bd at h9_3; have h9_4 := b_941; unfold bd at h9_4; have h9_5 := b_917; unfold bd at h9_5; have h9_6 := b_882; unfold bd at h9_6; have h9_7 := h_19; unfold bd at h9_7; have h9_8 := bx_2; unfold bd at h9_8; have h9_9 := h_9; unfold bd at h9_9; have h9_10 := bx_919; unfold bd at h9_10; have h9_11 := b_929; unfold bd at h9_11; have h8_0 := kb_0; unfold bd at h8_0; have h8_1 := kb_1; unfold bd at h8_1; have h8_2 := kb_1200; unfold bd at h8_2; have h8_3 := kb_40; unfold bd at h8_3; have h8_4 := kb_m1; unfold bd at h8_4; omega)
                    have go_ := g
                    refine g_callEv (As := [.int 0, .int 4, .int x_2]) (rest := []) ⟨hx, hb, hml, hown, hts⟩ (r_X14_need_2 l dC dI L kd tys fr_931 H.size g.2.2.2.1 a0_ ma0_ ka0_ 0 kb_0 4 x_2) (cwV 3 hts (gV_ t_2403 t_2405 t_100 t_198 t_2406) rfl rfl rfl (by decide +kernel) ⟨(show 1 + 1 ≤ N + 1 + 24 by omega), (show 8 + (4 + 11) + 22 ≤ 60 * (N + 1) + 700 by omega)⟩) (pre3V g hK ma0_ ka0_ (by decide) (q := (RX14, TX14, 67)) rfl) rfl hl.1 rfl (lv_room (Nat.le_of_ble_eq_true rfl)) dX14_readName_162 (cl_f hck_0) g hK (by decide) (by decide) (fx' := [(14, 17, a0_, .int x_919), (12, 24, q0_, .ref a_918), (14, 6, a0_, .int x_18), (14, 10, a0_, .int x_8), (14, 2, a0_, .ref q0_), (14, 16, a0_, .int o_), (14, 25, a0_, .int op_)]) rfl (fun xr_943 fr_943 H locs mxr_943 kxr_943 hp hMr_943 g => ?_) (fun fr_943 H locs hp hMr_943 g => ?_)
                    · have hG_944 := isV.frame hMr_943 go_.2.2.2.1 mq0_ kq0_ (by decide) (by decide) hG_936
                      have hG_945 := FR.frame hMr_943 go_.2.2.2.1 mq0_ kq0_ (by decide) (by decide) hG_937
                      have hG_946 := isN.frame hMr_943 go_.2.2.2.1 ma0_ ka0_ (by decide) (by decide) hG_938
                      have hG_947 := cEq.frame hMr_943 go_.2.2.2.1 ma0_ ka0_ (by decide) (by decide) hG_939
                      subst hQ
                      exact leavesX hempty hlocks (fun t ht hW => g_thrZ g hK mxr_943 kxr_943 ⟨hG_945, (by omega)⟩ ht hW) g.2.2.1.2.2
                    · exact hp.elim
                  · have fc_940 := nlt_f c_940
                    have b_948 : bd 0 1200 t_ := leL fc_940 bt_ kb_1200 (by decide)
                    refine lv_iconst (v := 1) hx hb dX14_readName_155 (by decide) ?_
                    refine lv_goto (tgt := 160) hx hb dX14_readName_156 (by decide) ?_
                    refine lv_iconst (v := 4) hx hb dX14_readName_160 (by decide) ?_
                    refine lv_iload_n hx hb dX14_readName_161 rfl (lv_at hl 4 rfl) ?_
                    have hs_949 := sE_1 g 2 rfl (by have h9_0 := bo_; unfold bd at h9_0; have h9_1 := bop_; unfold bd at h9_1; have h9_2 := h_888; unfold bd at h9_2; have h9_3 := bso_; unfold bd at h9_3; have h9_4 := b_948; unfold bd at h9_4; have h9_5 := b_917; unfold bd at h9_5; have h9_6 := b_882; unfold bd at h9_6; have h9_7 := h_19; unfold bd at h9_7; have h9_8 := bx_2; unfold bd at h9_8; have h9_9 := h_9; unfold bd at h9_9; have h9_10 := bx_919; unfold bd at h9_10; have h9_11 := b_929; unfold bd at h9_11; have h8_0 := kb_0; unfold bd at h8_0; have h8_1 := kb_1; unfold bd at h8_1; have h8_2 := kb_1200; unfold bd at h8_2; have h8_3 := kb_40; unfold bd at h8_3; have h8_4 := kb_m1; unfold bd at h8_4; omega)
                    have go_ := g
                    refine g_callEv (As := [.int 1, .int 4, .int x_2]) (rest := []) ⟨hx, hb, hml, hown, hts⟩ (r_X14_need_3 l dC dI L kd tys fr_931 H.size g.2.2.2.1 a0_ ma0_ ka0_ 1 kb_1 4 x_2) (cwV 3 hts (gV_ t_2403 t_2405 t_100 t_198 t_2406) rfl rfl rfl (by decide +kernel) ⟨(show 0 + 1 ≤ N + 1 + 24 by omega), (show 8 + (4 + 11) + 0 ≤ 60 * (N + 1) + 700 by omega)⟩) (pre3V g hK ma0_ ka0_ (by decide) (q := (RX14, TX14, 67)) rfl) rfl hl.1 rfl (lv_room (Nat.le_of_ble_eq_true rfl)) dX14_readName_162 (cl_f hck_0) g hK (by decide) (by decide) (fx' := [(14, 17, a0_, .int x_919), (12, 24, q0_, .ref a_918), (14, 6, a0_, .int x_18), (14, 10, a0_, .int x_8), (14, 2, a0_, .ref q0_), (14, 16, a0_, .int o_), (14, 25, a0_, .int op_)]) rfl (fun xr_950 fr_950 H locs mxr_950 kxr_950 hp hMr_950 g => ?_) (fun fr_950 H locs hp hMr_950 g => ?_)
                    · have hG_951 := isV.frame hMr_950 go_.2.2.2.1 mq0_ kq0_ (by decide) (by decide) hG_936
                      have hG_952 := FR.frame hMr_950 go_.2.2.2.1 mq0_ kq0_ (by decide) (by decide) hG_937
                      have hG_953 := isN.frame hMr_950 go_.2.2.2.1 ma0_ ka0_ (by decide) (by decide) hG_938
                      have hG_954 := cEq.frame hMr_950 go_.2.2.2.1 ma0_ ka0_ (by decide) (by decide) hG_939
                      exact hp.elim
                    · have hG_955 := isV.frame hMr_950 go_.2.2.2.1 mq0_ kq0_ (by decide) (by decide) hG_936
                      have hG_956 := FR.frame hMr_950 go_.2.2.2.1 mq0_ kq0_ (by decide) (by decide) hG_937
                      have hG_957 := isN.frame hMr_950 go_.2.2.2.1 ma0_ ka0_ (by decide) (by decide) hG_938
                      have hG_958 := cEq.frame hMr_950 go_.2.2.2.1 ma0_ ka0_ (by decide) (by decide) hG_939
                      refine lv_iload_n hx hb dX14_readName_165 rfl (lv_at hl 6 rfl) ?_
                      refine lv_if_eq (tgt := 185) hx hb dX14_readName_166 (by decide) (fun c_959 => ?_) (fun c_959 => ?_)
                      · have fc_959 := eq_f c_959
                        refine lv_aload_n hx hb dX14_readName_185 rfl (lv_at hl 5 rfl) ?_
                        refine g_getk (C := RX14) (T := TX14) (N := 67) hx hb hts (mc_ inX14) hown hK g rfl 2 (by decide) rfl (hts _ (List.mem_cons_of_mem _ t_2148)) (fun _ h9 => h9) 4 rfl dX14_readName_186 ?_
                        refine g_getk (C := RX12) (T := TX12) (N := 60) hx hb hts (mc_ inX12) hown hK g rfl 24 (by decide) rfl (hts _ (List.mem_cons_of_mem _ t_1954)) (fun _ h9 => h9) 1 rfl dX14_readName_189 ?_
                        refine lv_aload_n hx hb dX14_readName_192 rfl (lv_at hl 5 rfl) ?_
                        refine g_getk (C := RX14) (T := TX14) (N := 67) hx hb hts (mc_ inX14) hown hK g rfl 17 (by decide) rfl (hts _ (List.mem_cons_of_mem _ t_2163)) (fun _ h9 => h9) 0 rfl dX14_readName_193 ?_
                        refine lv_dup2_11 hx hb dX14_readName_196 rfl rfl ?_
                        refine g_iald hx hb hK g ma_918 ka_918 (by decide) rfl (in_bd bx_919 (by decide)) dX14_readName_197 (fun x_960 bx_960 cx_960 => ?_)
                        obtain rfl : x_920 = x_960 := el_same cx_920 cx_960 ((arr_eq hMr_950 ma_918 ka_918 (by decide) rfl).trans (arr_eq hMr_931 ma_918 ka_918 (by decide) rfl))
                        refine lv_iconst (v := 1) hx hb dX14_readName_198 (by decide) ?_
                        refine lv_iadd hx hb dX14_readName_199 ?_
                        refine lv_topi (fun y_961 ey_961 => ?_)
                        have ty_961 := add_bd ey_961 b_929 kb_1 (by decide)
                        have b_962 : bd 1 40 y_961 := add_rg ty_961 b_929 kb_1 (by decide)
                        have gp_963 := g
                        have go_ := g
                        refine g_iastX hx hb hK g ma_918 ka_918 (by decide) rfl (in_bd bx_919 (by decide)) (bd_sub b_962 (by decide)) (by decide) dX14_readName_200 (fun f H locs hM_964 u_967 g => ?_)
                        have hG_965 := isN.frame hM_964 go_.2.2.2.1 ma0_ ka0_ (by decide) (by decide) hG_957
                        have hG_966 := cEq.frame hM_964 go_.2.2.2.1 ma0_ ka0_ (by decide) (by decide) hG_958
                        have hV_968 := isV.ui hG_955 gp_963 1 rfl mq0_ kq0_ rfl u_967
                        have hF_969 := FR.arr hG_956 gp_963 1 rfl mq0_ kq0_ rfl rfl u_967.1
                        obtain ⟨V_970, hV_971, hX_972, hw_973, hn_974⟩ : ∃ V1 : PV, isV f q0_ V1 ∧ exN V_ V1 ∧ wfN V1 (V1.n 57).toInt ∧ (V1.n 57).toInt = (V_.n 57).toInt := ⟨_, hV_968, u24_ok hwf⟩
                        have hx_975 := exN.tr exN.rf hX_972
                        have hf_976 := (exN.fnd_ hX_972).mpr hf_903
                        refine lv_iload hx hb dX14_readName_201 (lv_at hl 0 rfl) ?_
                        refine lv_if_eq (tgt := 275) hx hb dX14_readName_203 (by decide) (fun c_ => absurd c_ (by decide)) (fun c_ => ?_)
                        refine lv_aload_n hx hb dX14_readName_206 rfl (lv_at hl 5 rfl) ?_
                        refine g_getk (C := RX14) (T := TX14) (N := 67) hx hb hts (mc_ inX14) hown hK g rfl 2 (by decide) rfl (hts _ (List.mem_cons_of_mem _ t_2148)) (fun _ h9 => h9) 4 rfl dX14_readName_207 ?_
                        refine lv_aload_n hx hb dX14_readName_210 rfl (lv_at hl 5 rfl) ?_
                        refine g_getk (C := RX14) (T := TX14) (N := 67) hx hb hts (mc_ inX14) hown hK g rfl 16 (by decide) rfl (hts _ (List.mem_cons_of_mem _ t_2162)) (fun _ h9 => h9) 5 rfl dX14_readName_211 ?_
                        refine lv_lload hx hb dX14_readName_214 (lv_at hl 3 rfl) ?_
                        refine lv_lload hx hb dX14_readName_216 (lv_at hl 2 rfl) ?_
                        have hs_977 := sE_1 g 2 rfl (by have h9_0 := bo_; unfold bd at h9_0; have h9_1 := bop_; unfold bd at h9_1; have h9_2 := h_888; unfold bd at h9_2; have h9_3 := bso_; unfold bd at h9_3; have h9_4 := b_948; unfold bd at h9_4; have h9_5 := b_917; unfold bd at h9_5; have h9_6 := b_882; unfold bd at h9_6; have h9_7 := h_19; unfold bd at h9_7; have h9_8 := bx_2; unfold bd at h9_8; have h9_9 := h_9; unfold bd at h9_9; have h9_10 := bx_919; unfold bd at h9_10; have h9_11 := b_929; unfold bd at h9_11; have h9_12 := bx_960; unfold bd at h9_12; have h9_13 := b_962; unfold bd at h9_13; have h8_0 := kb_0; unfold bd at h8_0; have h8_1 := kb_1; unfold bd at h8_1; have h8_2 := kb_1200; unfold bd at h8_2; have h8_3 := kb_40; unfold bd at h8_3; have h8_4 := kb_m1; unfold bd at h8_4; omega)
                        have go_ := g
                        refine g_calli (va_runV (As := [.int o_, .long x_3, .long x_4]) (rest := []) ⟨hx, hb, hml, hown, hts⟩ (r_X12_findN l dC dI L kd tys f H.size g.2.2.2.1 q0_ mq0_ kq0_ o_ (bd_sub bo_ (by decide)) x_3 x_4 V_970 hV_971) (cwV 3 hts (gV_ t_2500 t_2501 t_2502 t_203 t_2503) rfl rfl rfl (by decide +kernel) ⟨(show 0 + 1 ≤ N + 1 + 24 by omega), (show 8 + (7 + 11) + 0 ≤ 60 * (N + 1) + 700 by omega)⟩) (pre3V g hK mq0_ kq0_ (by decide) (q := (RX12, TX12, 60)) rfl) rfl rfl hl.1 rfl (lv_room (Nat.le_of_ble_eq_true rfl)) dX14_readName_218 (cl_f hck_0)) g hK (by decide) (by decide) (fx' := [(14, 17, a0_, .int x_919), (12, 24, q0_, .ref a_918), (14, 6, a0_, .int x_18), (14, 10, a0_, .int x_8), (14, 2, a0_, .ref q0_), (14, 16, a0_, .int o_), (14, 25, a0_, .int op_)]) rfl (fun r_978 fr_978 H locs hp hMr_978 g => ?_)
                        rcases hp with ⟨hx_979, h_980, -⟩ | ⟨hx_981, h_982, -⟩
                        · have hG_983 := isN.frame hMr_978 go_.2.2.2.1 ma0_ ka0_ (by decide) (by decide) hG_965
                          have hG_984 := cEq.frame hMr_978 go_.2.2.2.1 ma0_ ka0_ (by decide) (by decide) hG_966
                          have hG_985 := isV.frame hMr_978 go_.2.2.2.1 mq0_ kq0_ (by decide) (by decide) hV_971
                          have hG_986 := FR.frame hMr_978 go_.2.2.2.1 mq0_ kq0_ (by decide) (by decide) hF_969
                          obtain rfl : r_978 = (-1) := h_980
                          exact absurd hf_976 hx_979
                        · have hG_987 := isN.frame hMr_978 go_.2.2.2.1 ma0_ ka0_ (by decide) (by decide) hG_965
                          have hG_988 := cEq.frame hMr_978 go_.2.2.2.1 ma0_ ka0_ (by decide) (by decide) hG_966
                          have hG_989 := isV.frame hMr_978 go_.2.2.2.1 mq0_ kq0_ (by decide) (by decide) hV_971
                          have hG_990 := FR.frame hMr_978 go_.2.2.2.1 mq0_ kq0_ (by decide) (by decide) hF_969
                          have hf_991 := hx_981.fnd_
                          refine lv_istore (lv' := [(10, .int r_978), (9, .int 1), (8, .int t_), (6, .long x_4), (4, .long x_3), (3, .int x_2), (0, .ref a0_), (1, .int x1_), (2, .int x2_)]) hx hb dX14_readName_221 hl (by decide) rfl (fun ls hl => ?_)
                          have join_992 : ∀ (g261_14_22_a0_ : Int32) (f : Nat → va_E) (H : Heap) (locs : List Loc) (ls : Array Slot), bd 0 1 g261_14_22_a0_ → G3 (dC, dI) L kd tys s f0 [(12, 57), (12, 58), (14, 6), (14, 7), (14, 8), (14, 9), (14, 10), (14, 11), (14, 12), (14, 13), (14, 14), (14, 15), (14, 25)] [180, 201, 202, 203, 204, 205, 206, 207, 208, 209, 210] f H locs [(14, 22, a0_, .int g261_14_22_a0_), (14, 17, a0_, .int x_919), (12, 24, q0_, .ref a_918), (14, 6, a0_, .int x_18), (14, 10, a0_, .int x_8), (14, 2, a0_, .ref q0_), (14, 16, a0_, .int o_), (14, 25, a0_, .int op_)] → isN f a0_ N_ → cEq f a0_ E_14 → isV f q0_ V_970 → FR L kd f0 f q0_ → lv_has ls 11 [(10, .int r_978), (9, .int 1), (8, .int t_), (6, .long x_4), (4, .long x_3), (3, .int x_2), (0, .ref a0_), (1, .int x1_), (2, .int x2_)] → W p l e ({ frames := (N + 1) + 24, cells := K_, slots := 3 * K_, locals := 60 * (N + 1) + 700 } : Room) s m [.ref a0_, .int x1_, .int x2_].toArray below meth c H locs cl_0 (3 * cl_0) Q (F0 m 261 ls []) := by
                            intro g261_14_22_a0_ f H locs ls bg261_14_22_a0_ g hJ261_N_a0_ hJ261_C_a0_ hJ261_V_q0_ hJ261_F_q0_ hl
                            refine lv_aload_n hx hb dX14_readName_261 rfl (lv_at hl 6 rfl) ?_
                            refine lv_iconst (v := 3) hx hb dX14_readName_262 (by decide) ?_
                            refine lv_iload hx hb dX14_readName_263 (lv_at hl 0 rfl) ?_
                            refine lv_lload hx hb dX14_readName_265 (lv_at hl 4 rfl) ?_
                            refine lv_lload hx hb dX14_readName_267 (lv_at hl 3 rfl) ?_
                            refine lv_iload_n hx hb dX14_readName_269 rfl (lv_at hl 5 rfl) ?_
                            refine lv_iload_n hx hb dX14_readName_270 rfl (lv_at hl 7 rfl) ?_
                            have qc__993 : cF f a0_ = _ := hJ261_C_a0_
                            have hs_994 := sE_1 g 3 rfl (by have h9_0 := bg261_14_22_a0_; unfold bd at h9_0; have h9_1 := bo_; unfold bd at h9_1; have h9_2 := bop_; unfold bd at h9_2; have h9_3 := h_888; unfold bd at h9_3; have h9_4 := h_982; unfold bd at h9_4; have h9_5 := bso_; unfold bd at h9_5; have h9_6 := b_948; unfold bd at h9_6; have h9_7 := b_917; unfold bd at h9_7; have h9_8 := b_882; unfold bd at h9_8; have h9_9 := h_19; unfold bd at h9_9; have h9_10 := bx_2; unfold bd at h9_10; have h9_11 := h_9; unfold bd at h9_11; have h9_12 := bx_919; unfold bd at h9_12; have h9_13 := b_929; unfold bd at h9_13; have h9_14 := bx_960; unfold bd at h9_14; have h9_15 := b_962; unfold bd at h9_15; have h8_0 := kb_0; unfold bd at h8_0; have h8_1 := kb_1; unfold bd at h8_1; have h8_2 := kb_1200; unfold bd at h8_2; have h8_3 := kb_40; unfold bd at h8_3; have h8_4 := kb_m1; unfold bd at h8_4; omega)
                            have b_995 : bd 0 1201 x_8 := ⟨(by have h9_0 := bg261_14_22_a0_; unfold bd at h9_0; have h9_1 := bo_; unfold bd at h9_1; have h9_2 := bop_; unfold bd at h9_2; have h9_3 := h_888; unfold bd at h9_3; have h9_4 := h_982; unfold bd at h9_4; have h9_5 := bso_; unfold bd at h9_5; have h9_6 := b_948; unfold bd at h9_6; have h9_7 := b_917; unfold bd at h9_7; have h9_8 := b_882; unfold bd at h9_8; have h9_9 := h_19; unfold bd at h9_9; have h9_10 := bx_2; unfold bd at h9_10; have h9_11 := h_9; unfold bd at h9_11; have h9_12 := bx_919; unfold bd at h9_12; have h9_13 := b_929; unfold bd at h9_13; have h9_14 := bx_960; unfold bd at h9_14; have h9_15 := b_962; unfold bd at h9_15; have h8_0 := kb_0; unfold bd at h8_0; have h8_1 := kb_1; unfold bd at h8_1; have h8_2 := kb_1200; unfold bd at h8_2; have h8_3 := kb_40; unfold bd at h8_3; have h8_4 := kb_m1; unfold bd at h8_4; omega), (by have h9_0 := bg261_14_22_a0_; unfold bd at h9_0; have h9_1 := bo_; unfold bd at h9_1; have h9_2 := bop_; unfold bd at h9_2; have h9_3 := h_888; unfold bd at h9_3; have h9_4 := h_982; unfold bd at h9_4; have h9_5 := bso_; unfold bd at h9_5; have h9_6 := b_948; unfold bd at h9_6; have h9_7 := b_917; unfold bd at h9_7; have h9_8 := b_882; unfold bd at h9_8; have h9_9 := h_19; unfold bd at h9_9; have h9_10 := bx_2; unfold bd at h9_10; have h9_11 := h_9; unfold bd at h9_11; have h9_12 := bx_919; unfold bd at h9_12; have h9_13 := b_929; unfold bd at h9_13; have h9_14 := bx_960; unfold bd at h9_14; have h9_15 := b_962; unfold bd at h9_15; have h8_0 := kb_0; unfold bd at h8_0; have h8_1 := kb_1; unfold bd at h8_1; have h8_2 := kb_1200; unfold bd at h8_2; have h8_3 := kb_40; unfold bd at h8_3; have h8_4 := kb_m1; unfold bd at h8_4; omega)⟩
                            have go_ := g
                            refine g_callZi (As := [.int 3, .int r_978, .long x_3, .long x_4, .int x_2, .int x1_]) (rest := []) ⟨hx, hb, hml, hown, hts⟩ (ih.2.2.2.2.2.2 l dC dI L kd tys f H.size g.2.2.2.1 adK adV a0_ ma0_ ka0_ (3 : Int32) r_978 h_982 x_3 x_4 x_2 x1_ (bd_sub b_917 (by decide)) q0_ mq0_ kq0_ V_970 o_ bo_ op_ bop_ x_8 b_995 hJ261_V_q0_ hw_973 (by rw [hx_975.2.2.1 0 (by decide)]; exact ho) (by omega) hm_ hhm (by decide) (fun _ => hf_991) (fun h9 => absurd h9 (by decide)) (K_ - cl_0) (by omega) (by have h9_0 := bg261_14_22_a0_; unfold bd at h9_0; have h9_1 := bo_; unfold bd at h9_1; have h9_2 := bop_; unfold bd at h9_2; have h9_3 := h_888; unfold bd at h9_3; have h9_4 := h_982; unfold bd at h9_4; have h9_5 := bso_; unfold bd at h9_5; have h9_6 := b_948; unfold bd at h9_6; have h9_7 := b_917; unfold bd at h9_7; have h9_8 := b_882; unfold bd at h9_8; have h9_9 := h_19; unfold bd at h9_9; have h9_10 := bx_2; unfold bd at h9_10; have h9_11 := b_995; unfold bd at h9_11; have h9_12 := bx_919; unfold bd at h9_12; have h9_13 := b_929; unfold bd at h9_13; have h9_14 := bx_960; unfold bd at h9_14; have h9_15 := b_962; unfold bd at h9_15; have h8_0 := kb_0; unfold bd at h8_0; have h8_1 := kb_1; unfold bd at h8_1; have h8_2 := kb_1200; unfold bd at h8_2; have h8_3 := kb_40; unfold bd at h8_3; have h8_4 := kb_m1; unfold bd at h8_4; omega) (g.fcts [5, 6, 7, 4] rfl)) (cwV 6 hts (gV_ t_2508 t_2510 t_123 t_198 t_2511) rfl rfl rfl (by decide +kernel) ⟨(show N + 24 + 1 ≤ N + 1 + 24 by omega), (show 8 + (16 + 11) + (60 * N + 700) ≤ 60 * (N + 1) + 700 by omega)⟩) (pre3VA g hK hAm ma0_ ka0_ (by decide) (q := (RX14, TX14, 67)) rfl) rfl hl.1 rfl (lv_room (Nat.le_of_ble_eq_true rfl)) dX14_readName_271 (cl_k (K := K_) (k := K_ - cl_0) (show cl_0 + (K_ - cl_0) ≤ K_ by omega)) g hK (by decide) (by decide) (fx' := [(14, 22, a0_, .int g261_14_22_a0_), (14, 17, a0_, .int x_919), (12, 24, q0_, .ref a_918), (14, 2, a0_, .ref q0_), (14, 16, a0_, .int o_)]) rfl (fun xr_996 fr_996 H locs kr_996 cr_996 ecr_996 mxr_996 kxr_996 hp hMr_996 g => ?_) (fun r_996 fr_996 H locs kr_996 cr_996 ecr_996 hp hMr_996 g => ?_)
                            · have hG_997 := isN.frame hMr_996 go_.2.2.2.1 ma0_ ka0_ (by decide) (by decide) hJ261_N_a0_
                              have hF_998 := FR.call (mds := []) (mas := []) hJ261_F_q0_ go_ mq0_ kq0_ rfl hp.1
                              have hpk := hp.2
                              subst hQ
                              exact leavesX hempty hlocks (fun t ht hW => g_thrZ g hK mxr_996 kxr_996 ⟨hF_998, (by omega)⟩ ht hW) g.2.2.1.2.2
                            · obtain ⟨hx_999, x_1000, h_1001, hF_1002⟩ := hp
                              have hG_1003 := isN.frame hMr_996 go_.2.2.2.1 ma0_ ka0_ (by decide) (by decide) hJ261_N_a0_
                              obtain ⟨V_1004, E_1005, hV_1006, hF_1007, hE_1008, hX_1009, hw_1010, hv_1011, hP_1012, hn_1013, hk_1014, hc_1015⟩ := rd_use hx_999 hJ261_C_a0_
                              have hF_1016 := FR.call (mds := []) (mas := []) hJ261_F_q0_ go_ mq0_ kq0_ rfl hF_1007
                              have mxE_1005 : E_1005 ≤ 1202 := by have h9 := cF_le g ma0_ ka0_; have h8 : cF _ _ = _ := hE_1008; omega
                              have hx_1017 := exN.tr hx_975 hX_1009
                              have hf_1018 := (exN.fnd_ hX_1009).mpr hf_991
                              have hck_1019 : cr_996 ≤ K_ := by omega
                              have b_1020 : bd 0 2499 r_996 := ⟨hv_1011.1, (by have h9 := hv_1011.2.1; omega)⟩
                              have g := g.more hF_1002
                              have h9c : cF fr_996 a0_ = _ := hE_1008
                              subst hQ
                              exact iretX (v := r_996) hx hb hr (fun t ht hW => g_retZ g hK ⟨_, rfl, ⟨⟨_, hV_1006, hF_1016, hx_1017, hw_1010, hv_1011, ⟨Or.inr (hP_1012.trans (by decide)), (fun h9 => absurd h9 (by have h8 := b_882; unfold bd at h8; omega))⟩, (by omega), (by omega), (by omega)⟩, x_1000, h_1001, (g.fcts [0, 1] rfl)⟩⟩ ht hW) g.2.2.1.2.2 dX14_readName_274 hlocks
                          refine lv_aload_n hx hb dX14_readName_223 rfl (lv_at hl 6 rfl) ?_
                          refine lv_aload_n hx hb dX14_readName_224 rfl (lv_at hl 6 rfl) ?_
                          refine g_geti (C := RX14) (T := TX14) (N := 67) hx hb hts (mc_ inX14) hown hK g ma0_ ka0_ (by decide) rfl 22 (by decide) rfl (hts _ (List.mem_cons_of_mem _ t_2168)) (fun _ h9 => h9) rfl dX14_readName_225 (fun x_1021 bx_1021 g => ?_)
                          refine lv_if_ne (tgt := 238) hx hb dX14_readName_228 (by decide) (fun c_1022 => ?_) (fun c_1022 => ?_)
                          · have fc_1022 := neq_f c_1022
                            have b_1023 : bd 1 1 x_1021 := neX fc_1022 bx_1021 kb_0 (by decide)
                            refine lv_aload_n hx hb dX14_readName_238 rfl (lv_at hl 6 rfl) ?_
                            refine g_getk (C := RX14) (T := TX14) (N := 67) hx hb hts (mc_ inX14) hown hK g rfl 2 (by decide) rfl (hts _ (List.mem_cons_of_mem _ t_2148)) (fun _ h9 => h9) 5 rfl dX14_readName_239 ?_
                            refine g_getr (K := 182) (C := RX12) (T := TX12) (N := 60) hx hb hts (mc_ inX12) hown hK g mq0_ kq0_ (by decide) rfl 26 (by decide) rfl (hts _ (List.mem_cons_of_mem _ t_1958)) (fun _ h9 => h9) rfl dX14_readName_242 (fun a_1024 ma_1024 ka_1024 g => ?_)
                            refine lv_iload hx hb dX14_readName_245 (lv_at hl 0 rfl) ?_
                            refine g_zald hx hb hK g ma_1024 ka_1024 (by decide) rfl (in_bd h_982 (by decide)) dX14_readName_247 (fun x_1025 bx_1025 => ?_)
                            refine lv_if_eq (tgt := 255) hx hb dX14_readName_248 (by decide) (fun c_1026 => ?_) (fun c_1026 => ?_)
                            · have fc_1026 := eq_f c_1026
                              have b_1027 : bd 0 0 x_1025 := eqX fc_1026 bx_1025 kb_0 (by decide)
                              refine lv_iconst (v := 0) hx hb dX14_readName_255 (by decide) ?_
                              refine lv_iconst (v := 5) hx hb dX14_readName_256 (by decide) ?_
                              refine lv_iload_n hx hb dX14_readName_257 rfl (lv_at hl 5 rfl) ?_
                              have hs_1028 := sE_1 g 4 rfl (by have h9_0 := bo_; unfold bd at h9_0; have h9_1 := bop_; unfold bd at h9_1; have h9_2 := h_888; unfold bd at h9_2; have h9_3 := h_982; unfold bd at h9_3; have h9_4 := bso_; unfold bd at h9_4; have h9_5 := b_948; unfold bd at h9_5; have h9_6 := b_917; unfold bd at h9_6; have h9_7 := b_882; unfold bd at h9_7; have h9_8 := b_1023; unfold bd at h9_8; have h9_9 := b_1027; unfold bd at h9_9; have h9_10 := h_19; unfold bd at h9_10; have h9_11 := bx_2; unfold bd at h9_11; have h9_12 := h_9; unfold bd at h9_12; have h9_13 := bx_919; unfold bd at h9_13; have h9_14 := b_929; unfold bd at h9_14; have h9_15 := bx_960; unfold bd at h9_15; have h9_16 := b_962; unfold bd at h9_16; have h8_0 := kb_0; unfold bd at h8_0; have h8_1 := kb_1; unfold bd at h8_1; have h8_2 := kb_1200; unfold bd at h8_2; have h8_3 := kb_40; unfold bd at h8_3; have h8_4 := kb_m1; unfold bd at h8_4; omega)
                              have go_ := g
                              refine g_callEv (As := [.int 0, .int 5, .int x_2]) (rest := []) ⟨hx, hb, hml, hown, hts⟩ (r_X14_need_2 l dC dI L kd tys fr_978 H.size g.2.2.2.1 a0_ ma0_ ka0_ 0 kb_0 5 x_2) (cwV 3 hts (gV_ t_2403 t_2405 t_100 t_198 t_2406) rfl rfl rfl (by decide +kernel) ⟨(show 1 + 1 ≤ N + 1 + 24 by omega), (show 8 + (4 + 11) + 22 ≤ 60 * (N + 1) + 700 by omega)⟩) (pre3V g hK ma0_ ka0_ (by decide) (q := (RX14, TX14, 67)) rfl) rfl hl.1 rfl (lv_room (Nat.le_of_ble_eq_true rfl)) dX14_readName_258 (cl_f hck_0) g hK (by decide) (by decide) (fx' := [(12, 26, q0_, .ref a_1024), (14, 22, a0_, .int x_1021), (14, 17, a0_, .int x_919), (12, 24, q0_, .ref a_918), (14, 6, a0_, .int x_18), (14, 10, a0_, .int x_8), (14, 2, a0_, .ref q0_), (14, 16, a0_, .int o_), (14, 25, a0_, .int op_)]) rfl (fun xr_1029 fr_1029 H locs mxr_1029 kxr_1029 hp hMr_1029 g => ?_) (fun fr_1029 H locs hp hMr_1029 g => ?_)
                              · have hG_1030 := isN.frame hMr_1029 go_.2.2.2.1 ma0_ ka0_ (by decide) (by decide) hG_987
                                have hG_1031 := cEq.frame hMr_1029 go_.2.2.2.1 ma0_ ka0_ (by decide) (by decide) hG_988
                                have hG_1032 := isV.frame hMr_1029 go_.2.2.2.1 mq0_ kq0_ (by decide) (by decide) hG_989
                                have hG_1033 := FR.frame hMr_1029 go_.2.2.2.1 mq0_ kq0_ (by decide) (by decide) hG_990
                                subst hQ
                                exact leavesX hempty hlocks (fun t ht hW => g_thrZ g hK mxr_1029 kxr_1029 ⟨hG_1033, (by omega)⟩ ht hW) g.2.2.1.2.2
                              · exact hp.elim
                            · have fc_1026 := neq_f c_1026
                              have b_1034 : bd 1 1 x_1025 := neX fc_1026 bx_1025 kb_0 (by decide)
                              refine lv_iconst (v := 1) hx hb dX14_readName_251 (by decide) ?_
                              refine lv_goto (tgt := 256) hx hb dX14_readName_252 (by decide) ?_
                              refine lv_iconst (v := 5) hx hb dX14_readName_256 (by decide) ?_
                              refine lv_iload_n hx hb dX14_readName_257 rfl (lv_at hl 5 rfl) ?_
                              have hs_1035 := sE_1 g 4 rfl (by have h9_0 := bo_; unfold bd at h9_0; have h9_1 := bop_; unfold bd at h9_1; have h9_2 := h_888; unfold bd at h9_2; have h9_3 := h_982; unfold bd at h9_3; have h9_4 := bso_; unfold bd at h9_4; have h9_5 := b_948; unfold bd at h9_5; have h9_6 := b_917; unfold bd at h9_6; have h9_7 := b_882; unfold bd at h9_7; have h9_8 := b_1023; unfold bd at h9_8; have h9_9 := b_1034; unfold bd at h9_9; have h9_10 := h_19; unfold bd at h9_10; have h9_11 := bx_2; unfold bd at h9_11; have h9_12 := h_9; unfold bd at h9_12; have h9_13 := bx_919; unfold bd at h9_13; have h9_14 := b_929; unfold bd at h9_14; have h9_15 := bx_960; unfold bd at h9_15; have h9_16 := b_962; unfold bd at h9_16; have h8_0 := kb_0; unfold bd at h8_0; have h8_1 := kb_1; unfold bd at h8_1; have h8_2 := kb_1200; unfold bd at h8_2; have h8_3 := kb_40; unfold bd at h8_3; have h8_4 := kb_m1; unfold bd at h8_4; omega)
                              have go_ := g
                              refine g_callEv (As := [.int 1, .int 5, .int x_2]) (rest := []) ⟨hx, hb, hml, hown, hts⟩ (r_X14_need_3 l dC dI L kd tys fr_978 H.size g.2.2.2.1 a0_ ma0_ ka0_ 1 kb_1 5 x_2) (cwV 3 hts (gV_ t_2403 t_2405 t_100 t_198 t_2406) rfl rfl rfl (by decide +kernel) ⟨(show 0 + 1 ≤ N + 1 + 24 by omega), (show 8 + (4 + 11) + 0 ≤ 60 * (N + 1) + 700 by omega)⟩) (pre3V g hK ma0_ ka0_ (by decide) (q := (RX14, TX14, 67)) rfl) rfl hl.1 rfl (lv_room (Nat.le_of_ble_eq_true rfl)) dX14_readName_258 (cl_f hck_0) g hK (by decide) (by decide) (fx' := [(12, 26, q0_, .ref a_1024), (14, 22, a0_, .int x_1021), (14, 17, a0_, .int x_919), (12, 24, q0_, .ref a_918), (14, 6, a0_, .int x_18), (14, 10, a0_, .int x_8), (14, 2, a0_, .ref q0_), (14, 16, a0_, .int o_), (14, 25, a0_, .int op_)]) rfl (fun xr_1036 fr_1036 H locs mxr_1036 kxr_1036 hp hMr_1036 g => ?_) (fun fr_1036 H locs hp hMr_1036 g => ?_)
                              · have hG_1037 := isN.frame hMr_1036 go_.2.2.2.1 ma0_ ka0_ (by decide) (by decide) hG_987
                                have hG_1038 := cEq.frame hMr_1036 go_.2.2.2.1 ma0_ ka0_ (by decide) (by decide) hG_988
                                have hG_1039 := isV.frame hMr_1036 go_.2.2.2.1 mq0_ kq0_ (by decide) (by decide) hG_989
                                have hG_1040 := FR.frame hMr_1036 go_.2.2.2.1 mq0_ kq0_ (by decide) (by decide) hG_990
                                exact hp.elim
                              · have hG_1041 := isN.frame hMr_1036 go_.2.2.2.1 ma0_ ka0_ (by decide) (by decide) hG_987
                                have hG_1042 := cEq.frame hMr_1036 go_.2.2.2.1 ma0_ ka0_ (by decide) (by decide) hG_988
                                have hG_1043 := isV.frame hMr_1036 go_.2.2.2.1 mq0_ kq0_ (by decide) (by decide) hG_989
                                have hG_1044 := FR.frame hMr_1036 go_.2.2.2.1 mq0_ kq0_ (by decide) (by decide) hG_990
                                have hl9 := lv_sub hl [0, 1, 2, 3, 4, 5, 6, 7, 8] (by rfl : lv_pick [(10, .int r_978), (9, .int 1), (8, .int t_), (6, .long x_4), (4, .long x_3), (3, .int x_2), (0, .ref a0_), (1, .int x1_), (2, .int x2_)] [0, 1, 2, 3, 4, 5, 6, 7, 8] = [(10, .int r_978), (9, .int 1), (8, .int t_), (6, .long x_4), (4, .long x_3), (3, .int x_2), (0, .ref a0_), (1, .int x1_), (2, .int x2_)])
                                have g9 := g.sub (fx' := [(14, 22, a0_, .int x_1021), (14, 17, a0_, .int x_919), (12, 24, q0_, .ref a_918), (14, 6, a0_, .int x_18), (14, 10, a0_, .int x_8), (14, 2, a0_, .ref q0_), (14, 16, a0_, .int o_), (14, 25, a0_, .int op_)]) [1, 2, 3, 4, 5, 6, 7, 8] rfl
                                exact join_992 x_1021 _ _ _ _ (bd_sub b_1023 (by decide)) g9 hG_1041 hG_1042 hG_1043 hG_1044 hl9
                          · have fc_1022 := eq_f c_1022
                            have b_1045 : bd 0 0 x_1021 := eqX fc_1022 bx_1021 kb_0 (by decide)
                            refine lv_aload_n hx hb dX14_readName_231 rfl (lv_at hl 6 rfl) ?_
                            refine g_geti (C := RX14) (T := TX14) (N := 67) hx hb hts (mc_ inX14) hown hK g ma0_ ka0_ (by decide) rfl 24 (by decide) rfl (hts _ (List.mem_cons_of_mem _ t_2170)) (fun _ h9 => h9) rfl dX14_readName_232 (fun x_1046 bx_1046 g => ?_)
                            refine lv_if_eq (tgt := 251) hx hb dX14_readName_235 (by decide) (fun c_1047 => ?_) (fun c_1047 => ?_)
                            · have fc_1047 := eq_f c_1047
                              have b_1048 : bd 0 0 x_1046 := eqX fc_1047 bx_1046 kb_0 (by decide)
                              refine lv_iconst (v := 1) hx hb dX14_readName_251 (by decide) ?_
                              refine lv_goto (tgt := 256) hx hb dX14_readName_252 (by decide) ?_
                              refine lv_iconst (v := 5) hx hb dX14_readName_256 (by decide) ?_
                              refine lv_iload_n hx hb dX14_readName_257 rfl (lv_at hl 5 rfl) ?_
                              have hs_1049 := sE_1 g 4 rfl (by have h9_0 := bo_; unfold bd at h9_0; have h9_1 := bop_; unfold bd at h9_1; have h9_2 := h_888; unfold bd at h9_2; have h9_3 := h_982; unfold bd at h9_3; have h9_4 := bso_; unfold bd at h9_4; have h9_5 := b_948; unfold bd at h9_5; have h9_6 := b_917; unfold bd at h9_6; have h9_7 := b_882; unfold bd at h9_7; have h9_8 := b_1045; unfold bd at h9_8; have h9_9 := b_1048; unfold bd at h9_9; have h9_10 := h_19; unfold bd at h9_10; have h9_11 := bx_2; unfold bd at h9_11; have h9_12 := h_9; unfold bd at h9_12; have h9_13 := bx_919; unfold bd at h9_13; have h9_14 := b_929; unfold bd at h9_14; have h9_15 := bx_960; unfold bd at h9_15; have h9_16 := b_962; unfold bd at h9_16; have h8_0 := kb_0; unfold bd at h8_0; have h8_1 := kb_1; unfold bd at h8_1; have h8_2 := kb_1200; unfold bd at h8_2; have h8_3 := kb_40; unfold bd at h8_3; have h8_4 := kb_m1; unfold bd at h8_4; omega)
                              have go_ := g
                              refine g_callEv (As := [.int 1, .int 5, .int x_2]) (rest := []) ⟨hx, hb, hml, hown, hts⟩ (r_X14_need_3 l dC dI L kd tys fr_978 H.size g.2.2.2.1 a0_ ma0_ ka0_ 1 kb_1 5 x_2) (cwV 3 hts (gV_ t_2403 t_2405 t_100 t_198 t_2406) rfl rfl rfl (by decide +kernel) ⟨(show 0 + 1 ≤ N + 1 + 24 by omega), (show 8 + (4 + 11) + 0 ≤ 60 * (N + 1) + 700 by omega)⟩) (pre3V g hK ma0_ ka0_ (by decide) (q := (RX14, TX14, 67)) rfl) rfl hl.1 rfl (lv_room (Nat.le_of_ble_eq_true rfl)) dX14_readName_258 (cl_f hck_0) g hK (by decide) (by decide) (fx' := [(14, 24, a0_, .int x_1046), (14, 22, a0_, .int x_1021), (14, 17, a0_, .int x_919), (12, 24, q0_, .ref a_918), (14, 6, a0_, .int x_18), (14, 10, a0_, .int x_8), (14, 2, a0_, .ref q0_), (14, 16, a0_, .int o_), (14, 25, a0_, .int op_)]) rfl (fun xr_1050 fr_1050 H locs mxr_1050 kxr_1050 hp hMr_1050 g => ?_) (fun fr_1050 H locs hp hMr_1050 g => ?_)
                              · have hG_1051 := isN.frame hMr_1050 go_.2.2.2.1 ma0_ ka0_ (by decide) (by decide) hG_987
                                have hG_1052 := cEq.frame hMr_1050 go_.2.2.2.1 ma0_ ka0_ (by decide) (by decide) hG_988
                                have hG_1053 := isV.frame hMr_1050 go_.2.2.2.1 mq0_ kq0_ (by decide) (by decide) hG_989
                                have hG_1054 := FR.frame hMr_1050 go_.2.2.2.1 mq0_ kq0_ (by decide) (by decide) hG_990
                                exact hp.elim
                              · have hG_1055 := isN.frame hMr_1050 go_.2.2.2.1 ma0_ ka0_ (by decide) (by decide) hG_987
                                have hG_1056 := cEq.frame hMr_1050 go_.2.2.2.1 ma0_ ka0_ (by decide) (by decide) hG_988
                                have hG_1057 := isV.frame hMr_1050 go_.2.2.2.1 mq0_ kq0_ (by decide) (by decide) hG_989
                                have hG_1058 := FR.frame hMr_1050 go_.2.2.2.1 mq0_ kq0_ (by decide) (by decide) hG_990
                                have hl9 := lv_sub hl [0, 1, 2, 3, 4, 5, 6, 7, 8] (by rfl : lv_pick [(10, .int r_978), (9, .int 1), (8, .int t_), (6, .long x_4), (4, .long x_3), (3, .int x_2), (0, .ref a0_), (1, .int x1_), (2, .int x2_)] [0, 1, 2, 3, 4, 5, 6, 7, 8] = [(10, .int r_978), (9, .int 1), (8, .int t_), (6, .long x_4), (4, .long x_3), (3, .int x_2), (0, .ref a0_), (1, .int x1_), (2, .int x2_)])
                                have g9 := g.sub (fx' := [(14, 22, a0_, .int x_1021), (14, 17, a0_, .int x_919), (12, 24, q0_, .ref a_918), (14, 6, a0_, .int x_18), (14, 10, a0_, .int x_8), (14, 2, a0_, .ref q0_), (14, 16, a0_, .int o_), (14, 25, a0_, .int op_)]) [1, 2, 3, 4, 5, 6, 7, 8] rfl
                                exact join_992 x_1021 _ _ _ _ (bd_sub b_1045 (by decide)) g9 hG_1055 hG_1056 hG_1057 hG_1058 hl9
                            · have fc_1047 := neq_f c_1047
                              have b_1059 : bd 1 1 x_1046 := neX fc_1047 bx_1046 kb_0 (by decide)
                              refine lv_aload_n hx hb dX14_readName_238 rfl (lv_at hl 6 rfl) ?_
                              refine g_getk (C := RX14) (T := TX14) (N := 67) hx hb hts (mc_ inX14) hown hK g rfl 2 (by decide) rfl (hts _ (List.mem_cons_of_mem _ t_2148)) (fun _ h9 => h9) 6 rfl dX14_readName_239 ?_
                              refine g_getr (K := 182) (C := RX12) (T := TX12) (N := 60) hx hb hts (mc_ inX12) hown hK g mq0_ kq0_ (by decide) rfl 26 (by decide) rfl (hts _ (List.mem_cons_of_mem _ t_1958)) (fun _ h9 => h9) rfl dX14_readName_242 (fun a_1060 ma_1060 ka_1060 g => ?_)
                              refine lv_iload hx hb dX14_readName_245 (lv_at hl 0 rfl) ?_
                              refine g_zald hx hb hK g ma_1060 ka_1060 (by decide) rfl (in_bd h_982 (by decide)) dX14_readName_247 (fun x_1061 bx_1061 => ?_)
                              refine lv_if_eq (tgt := 255) hx hb dX14_readName_248 (by decide) (fun c_1062 => ?_) (fun c_1062 => ?_)
                              · have fc_1062 := eq_f c_1062
                                have b_1063 : bd 0 0 x_1061 := eqX fc_1062 bx_1061 kb_0 (by decide)
                                refine lv_iconst (v := 0) hx hb dX14_readName_255 (by decide) ?_
                                refine lv_iconst (v := 5) hx hb dX14_readName_256 (by decide) ?_
                                refine lv_iload_n hx hb dX14_readName_257 rfl (lv_at hl 5 rfl) ?_
                                have hs_1064 := sE_1 g 5 rfl (by have h9_0 := bo_; unfold bd at h9_0; have h9_1 := bop_; unfold bd at h9_1; have h9_2 := h_888; unfold bd at h9_2; have h9_3 := h_982; unfold bd at h9_3; have h9_4 := bso_; unfold bd at h9_4; have h9_5 := b_948; unfold bd at h9_5; have h9_6 := b_917; unfold bd at h9_6; have h9_7 := b_882; unfold bd at h9_7; have h9_8 := b_1045; unfold bd at h9_8; have h9_9 := b_1059; unfold bd at h9_9; have h9_10 := b_1063; unfold bd at h9_10; have h9_11 := h_19; unfold bd at h9_11; have h9_12 := bx_2; unfold bd at h9_12; have h9_13 := h_9; unfold bd at h9_13; have h9_14 := bx_919; unfold bd at h9_14; have h9_15 := b_929; unfold bd at h9_15; have h9_16 := bx_960; unfold bd at h9_16; have h9_17 := b_962; unfold bd at h9_17; have h8_0 := kb_0; unfold bd at h8_0; have h8_1 := kb_1; unfold bd at h8_1; have h8_2 := kb_1200; unfold bd at h8_2; have h8_3 := kb_40; unfold bd at h8_3; have h8_4 := kb_m1; unfold bd at h8_4; omega)
                                have go_ := g
                                refine g_callEv (As := [.int 0, .int 5, .int x_2]) (rest := []) ⟨hx, hb, hml, hown, hts⟩ (r_X14_need_2 l dC dI L kd tys fr_978 H.size g.2.2.2.1 a0_ ma0_ ka0_ 0 kb_0 5 x_2) (cwV 3 hts (gV_ t_2403 t_2405 t_100 t_198 t_2406) rfl rfl rfl (by decide +kernel) ⟨(show 1 + 1 ≤ N + 1 + 24 by omega), (show 8 + (4 + 11) + 22 ≤ 60 * (N + 1) + 700 by omega)⟩) (pre3V g hK ma0_ ka0_ (by decide) (q := (RX14, TX14, 67)) rfl) rfl hl.1 rfl (lv_room (Nat.le_of_ble_eq_true rfl)) dX14_readName_258 (cl_f hck_0) g hK (by decide) (by decide) (fx' := [(12, 26, q0_, .ref a_1060), (14, 24, a0_, .int x_1046), (14, 22, a0_, .int x_1021), (14, 17, a0_, .int x_919), (12, 24, q0_, .ref a_918), (14, 6, a0_, .int x_18), (14, 10, a0_, .int x_8), (14, 2, a0_, .ref q0_), (14, 16, a0_, .int o_), (14, 25, a0_, .int op_)]) rfl (fun xr_1065 fr_1065 H locs mxr_1065 kxr_1065 hp hMr_1065 g => ?_) (fun fr_1065 H locs hp hMr_1065 g => ?_)
                                · have hG_1066 := isN.frame hMr_1065 go_.2.2.2.1 ma0_ ka0_ (by decide) (by decide) hG_987
                                  have hG_1067 := cEq.frame hMr_1065 go_.2.2.2.1 ma0_ ka0_ (by decide) (by decide) hG_988
                                  have hG_1068 := isV.frame hMr_1065 go_.2.2.2.1 mq0_ kq0_ (by decide) (by decide) hG_989
                                  have hG_1069 := FR.frame hMr_1065 go_.2.2.2.1 mq0_ kq0_ (by decide) (by decide) hG_990
                                  subst hQ
                                  exact leavesX hempty hlocks (fun t ht hW => g_thrZ g hK mxr_1065 kxr_1065 ⟨hG_1069, (by omega)⟩ ht hW) g.2.2.1.2.2
                                · exact hp.elim
                              · have fc_1062 := neq_f c_1062
                                have b_1070 : bd 1 1 x_1061 := neX fc_1062 bx_1061 kb_0 (by decide)
                                refine lv_iconst (v := 1) hx hb dX14_readName_251 (by decide) ?_
                                refine lv_goto (tgt := 256) hx hb dX14_readName_252 (by decide) ?_
                                refine lv_iconst (v := 5) hx hb dX14_readName_256 (by decide) ?_
                                refine lv_iload_n hx hb dX14_readName_257 rfl (lv_at hl 5 rfl) ?_
                                have hs_1071 := sE_1 g 5 rfl (by have h9_0 := bo_; unfold bd at h9_0; have h9_1 := bop_; unfold bd at h9_1; have h9_2 := h_888; unfold bd at h9_2; have h9_3 := h_982; unfold bd at h9_3; have h9_4 := bso_; unfold bd at h9_4; have h9_5 := b_948; unfold bd at h9_5; have h9_6 := b_917; unfold bd at h9_6; have h9_7 := b_882; unfold bd at h9_7; have h9_8 := b_1045; unfold bd at h9_8; have h9_9 := b_1059; unfold bd at h9_9; have h9_10 := b_1070; unfold bd at h9_10; have h9_11 := h_19; unfold bd at h9_11; have h9_12 := bx_2; unfold bd at h9_12; have h9_13 := h_9; unfold bd at h9_13; have h9_14 := bx_919; unfold bd at h9_14; have h9_15 := b_929; unfold bd at h9_15; have h9_16 := bx_960; unfold bd at h9_16; have h9_17 := b_962; unfold bd at h9_17; have h8_0 := kb_0; unfold bd at h8_0; have h8_1 := kb_1; unfold bd at h8_1; have h8_2 := kb_1200; unfold bd at h8_2; have h8_3 := kb_40; unfold bd at h8_3; have h8_4 := kb_m1; unfold bd at h8_4; omega)
                                have go_ := g
                                refine g_callEv (As := [.int 1, .int 5, .int x_2]) (rest := []) ⟨hx, hb, hml, hown, hts⟩ (r_X14_need_3 l dC dI L kd tys fr_978 H.size g.2.2.2.1 a0_ ma0_ ka0_ 1 kb_1 5 x_2) (cwV 3 hts (gV_ t_2403 t_2405 t_100 t_198 t_2406) rfl rfl rfl (by decide +kernel) ⟨(show 0 + 1 ≤ N + 1 + 24 by omega), (show 8 + (4 + 11) + 0 ≤ 60 * (N + 1) + 700 by omega)⟩) (pre3V g hK ma0_ ka0_ (by decide) (q := (RX14, TX14, 67)) rfl) rfl hl.1 rfl (lv_room (Nat.le_of_ble_eq_true rfl)) dX14_readName_258 (cl_f hck_0) g hK (by decide) (by decide) (fx' := [(12, 26, q0_, .ref a_1060), (14, 24, a0_, .int x_1046), (14, 22, a0_, .int x_1021), (14, 17, a0_, .int x_919), (12, 24, q0_, .ref a_918), (14, 6, a0_, .int x_18), (14, 10, a0_, .int x_8), (14, 2, a0_, .ref q0_), (14, 16, a0_, .int o_), (14, 25, a0_, .int op_)]) rfl (fun xr_1072 fr_1072 H locs mxr_1072 kxr_1072 hp hMr_1072 g => ?_) (fun fr_1072 H locs hp hMr_1072 g => ?_)
                                · have hG_1073 := isN.frame hMr_1072 go_.2.2.2.1 ma0_ ka0_ (by decide) (by decide) hG_987
                                  have hG_1074 := cEq.frame hMr_1072 go_.2.2.2.1 ma0_ ka0_ (by decide) (by decide) hG_988
                                  have hG_1075 := isV.frame hMr_1072 go_.2.2.2.1 mq0_ kq0_ (by decide) (by decide) hG_989
                                  have hG_1076 := FR.frame hMr_1072 go_.2.2.2.1 mq0_ kq0_ (by decide) (by decide) hG_990
                                  exact hp.elim
                                · have hG_1077 := isN.frame hMr_1072 go_.2.2.2.1 ma0_ ka0_ (by decide) (by decide) hG_987
                                  have hG_1078 := cEq.frame hMr_1072 go_.2.2.2.1 ma0_ ka0_ (by decide) (by decide) hG_988
                                  have hG_1079 := isV.frame hMr_1072 go_.2.2.2.1 mq0_ kq0_ (by decide) (by decide) hG_989
                                  have hG_1080 := FR.frame hMr_1072 go_.2.2.2.1 mq0_ kq0_ (by decide) (by decide) hG_990
                                  have hl9 := lv_sub hl [0, 1, 2, 3, 4, 5, 6, 7, 8] (by rfl : lv_pick [(10, .int r_978), (9, .int 1), (8, .int t_), (6, .long x_4), (4, .long x_3), (3, .int x_2), (0, .ref a0_), (1, .int x1_), (2, .int x2_)] [0, 1, 2, 3, 4, 5, 6, 7, 8] = [(10, .int r_978), (9, .int 1), (8, .int t_), (6, .long x_4), (4, .long x_3), (3, .int x_2), (0, .ref a0_), (1, .int x1_), (2, .int x2_)])
                                  have g9 := g.sub (fx' := [(14, 22, a0_, .int x_1021), (14, 17, a0_, .int x_919), (12, 24, q0_, .ref a_918), (14, 6, a0_, .int x_18), (14, 10, a0_, .int x_8), (14, 2, a0_, .ref q0_), (14, 16, a0_, .int o_), (14, 25, a0_, .int op_)]) [2, 3, 4, 5, 6, 7, 8, 9] rfl
                                  exact join_992 x_1021 _ _ _ _ (bd_sub b_1045 (by decide)) g9 hG_1077 hG_1078 hG_1079 hG_1080 hl9
                      · have fc_959 := neq_f c_959
                        have b_1081 : bd 1 (-1) x1_ := neX fc_959 b_917 kb_0 (by decide)
                        exact bd_no b_1081 (by decide)
            · have fc_916 := neq_f c_916
              have b_1082 : bd 1 1 x1_ := neX fc_916 bx1_ kb_0 (by decide)
              refine lv_aload_n hx hb dX14_readName_98 rfl (lv_at hl 5 rfl) ?_
              refine g_getk (C := RX14) (T := TX14) (N := 67) hx hb hts (mc_ inX14) hown hK g rfl 2 (by decide) rfl (hts _ (List.mem_cons_of_mem _ t_2148)) (fun _ h9 => h9) 2 rfl dX14_readName_99 ?_
              refine g_geti (C := RX12) (T := TX12) (N := 60) hx hb hts (mc_ inX12) hown hK g mq0_ kq0_ (by decide) rfl 58 (by decide) rfl (hts _ (List.mem_cons_of_mem _ t_2018)) (fun _ h9 => h9) rfl dX14_readName_102 (fun x_1083 bx_1083 g => ?_)
              refine lv_sipush (v := 2000) hx hb dX14_readName_105 (by decide) ?_
              have kb_2000 : bd 2000 2000 (2000 : Int32) := ⟨by decide, by decide⟩
              refine lv_icmp_ge (tgt := 115) hx hb dX14_readName_108 (by decide) (fun c_1084 => ?_) (fun c_1084 => ?_)
              · have fc_1084 := le_f c_1084
                have b_1085 : bd 2000 2147483647 x_1083 := leR fc_1084 kb_2000 (bdT x_1083) (by decide)
                refine lv_iconst (v := 0) hx hb dX14_readName_115 (by decide) ?_
                refine lv_goto (tgt := 141) hx hb dX14_readName_116 (by decide) ?_
                refine lv_iconst (v := 4) hx hb dX14_readName_141 (by decide) ?_
                refine lv_iload_n hx hb dX14_readName_142 rfl (lv_at hl 4 rfl) ?_
                have hs_1086 := sE_1 g 1 rfl (by have h9_0 := bo_; unfold bd at h9_0; have h9_1 := bop_; unfold bd at h9_1; have h9_2 := h_888; unfold bd at h9_2; have h9_3 := bso_; unfold bd at h9_3; have h9_4 := bt_; unfold bd at h9_4; have h9_5 := b_1082; unfold bd at h9_5; have h9_6 := b_882; unfold bd at h9_6; have h9_7 := b_1085; unfold bd at h9_7; have h9_8 := h_19; unfold bd at h9_8; have h9_9 := bx_2; unfold bd at h9_9; have h9_10 := h_9; unfold bd at h9_10; have h8_0 := kb_0; unfold bd at h8_0; have h8_1 := kb_1; unfold bd at h8_1; have h8_2 := kb_2000; unfold bd at h8_2; have h8_3 := kb_m1; unfold bd at h8_3; omega)
                have go_ := g
                refine g_callEv (As := [.int 0, .int 4, .int x_2]) (rest := []) ⟨hx, hb, hml, hown, hts⟩ (r_X14_need_2 l dC dI L kd tys fr_907 H.size g.2.2.2.1 a0_ ma0_ ka0_ 0 kb_0 4 x_2) (cwV 3 hts (gV_ t_2403 t_2405 t_100 t_198 t_2406) rfl rfl rfl (by decide +kernel) ⟨(show 1 + 1 ≤ N + 1 + 24 by omega), (show 8 + (4 + 11) + 22 ≤ 60 * (N + 1) + 700 by omega)⟩) (pre3V g hK ma0_ ka0_ (by decide) (q := (RX14, TX14, 67)) rfl) rfl hl.1 rfl (lv_room (Nat.le_of_ble_eq_true rfl)) dX14_readName_143 (cl_f hck_0) g hK (by decide) (by decide) (fx' := [(12, 58, q0_, .int x_1083), (14, 6, a0_, .int x_18), (14, 10, a0_, .int x_8), (14, 2, a0_, .ref q0_), (14, 16, a0_, .int o_), (14, 25, a0_, .int op_)]) rfl (fun xr_1087 fr_1087 H locs mxr_1087 kxr_1087 hp hMr_1087 g => ?_) (fun fr_1087 H locs hp hMr_1087 g => ?_)
                · have hG_1088 := isV.frame hMr_1087 go_.2.2.2.1 mq0_ kq0_ (by decide) (by decide) hG_912
                  have hG_1089 := FR.frame hMr_1087 go_.2.2.2.1 mq0_ kq0_ (by decide) (by decide) hG_913
                  have hG_1090 := isN.frame hMr_1087 go_.2.2.2.1 ma0_ ka0_ (by decide) (by decide) hG_914
                  have hG_1091 := cEq.frame hMr_1087 go_.2.2.2.1 ma0_ ka0_ (by decide) (by decide) hG_915
                  subst hQ
                  exact leavesX hempty hlocks (fun t ht hW => g_thrZ g hK mxr_1087 kxr_1087 ⟨hG_1089, (by omega)⟩ ht hW) g.2.2.1.2.2
                · exact hp.elim
              · have fc_1084 := nle_f c_1084
                have b_1092 : bd (-2147483648) 1999 x_1083 := ltL fc_1084 (bdT x_1083) kb_2000 (by decide)
                refine lv_iconst (v := 1) hx hb dX14_readName_111 (by decide) ?_
                refine lv_goto (tgt := 141) hx hb dX14_readName_112 (by decide) ?_
                refine lv_iconst (v := 4) hx hb dX14_readName_141 (by decide) ?_
                refine lv_iload_n hx hb dX14_readName_142 rfl (lv_at hl 4 rfl) ?_
                have hs_1093 := sE_1 g 1 rfl (by have h9_0 := bo_; unfold bd at h9_0; have h9_1 := bop_; unfold bd at h9_1; have h9_2 := h_888; unfold bd at h9_2; have h9_3 := bso_; unfold bd at h9_3; have h9_4 := bt_; unfold bd at h9_4; have h9_5 := b_1082; unfold bd at h9_5; have h9_6 := b_882; unfold bd at h9_6; have h9_7 := b_1092; unfold bd at h9_7; have h9_8 := h_19; unfold bd at h9_8; have h9_9 := bx_2; unfold bd at h9_9; have h9_10 := h_9; unfold bd at h9_10; have h8_0 := kb_0; unfold bd at h8_0; have h8_1 := kb_1; unfold bd at h8_1; have h8_2 := kb_2000; unfold bd at h8_2; have h8_3 := kb_m1; unfold bd at h8_3; omega)
                have go_ := g
                refine g_callEv (As := [.int 1, .int 4, .int x_2]) (rest := []) ⟨hx, hb, hml, hown, hts⟩ (r_X14_need_3 l dC dI L kd tys fr_907 H.size g.2.2.2.1 a0_ ma0_ ka0_ 1 kb_1 4 x_2) (cwV 3 hts (gV_ t_2403 t_2405 t_100 t_198 t_2406) rfl rfl rfl (by decide +kernel) ⟨(show 0 + 1 ≤ N + 1 + 24 by omega), (show 8 + (4 + 11) + 0 ≤ 60 * (N + 1) + 700 by omega)⟩) (pre3V g hK ma0_ ka0_ (by decide) (q := (RX14, TX14, 67)) rfl) rfl hl.1 rfl (lv_room (Nat.le_of_ble_eq_true rfl)) dX14_readName_143 (cl_f hck_0) g hK (by decide) (by decide) (fx' := [(12, 58, q0_, .int x_1083), (14, 6, a0_, .int x_18), (14, 10, a0_, .int x_8), (14, 2, a0_, .ref q0_), (14, 16, a0_, .int o_), (14, 25, a0_, .int op_)]) rfl (fun xr_1094 fr_1094 H locs mxr_1094 kxr_1094 hp hMr_1094 g => ?_) (fun fr_1094 H locs hp hMr_1094 g => ?_)
                · have hG_1095 := isV.frame hMr_1094 go_.2.2.2.1 mq0_ kq0_ (by decide) (by decide) hG_912
                  have hG_1096 := FR.frame hMr_1094 go_.2.2.2.1 mq0_ kq0_ (by decide) (by decide) hG_913
                  have hG_1097 := isN.frame hMr_1094 go_.2.2.2.1 ma0_ ka0_ (by decide) (by decide) hG_914
                  have hG_1098 := cEq.frame hMr_1094 go_.2.2.2.1 ma0_ ka0_ (by decide) (by decide) hG_915
                  exact hp.elim
                · have hG_1099 := isV.frame hMr_1094 go_.2.2.2.1 mq0_ kq0_ (by decide) (by decide) hG_912
                  have hG_1100 := FR.frame hMr_1094 go_.2.2.2.1 mq0_ kq0_ (by decide) (by decide) hG_913
                  have hG_1101 := isN.frame hMr_1094 go_.2.2.2.1 ma0_ ka0_ (by decide) (by decide) hG_914
                  have hG_1102 := cEq.frame hMr_1094 go_.2.2.2.1 ma0_ ka0_ (by decide) (by decide) hG_915
                  refine lv_aload_n hx hb dX14_readName_146 rfl (lv_at hl 5 rfl) ?_
                  refine lv_iload hx hb dX14_readName_147 (lv_at hl 1 rfl) ?_
                  refine lv_sipush (v := 1200) hx hb dX14_readName_149 (by decide) ?_
                  have kb_1200 : bd 1200 1200 (1200 : Int32) := ⟨by decide, by decide⟩
                  refine lv_icmp_gt (tgt := 159) hx hb dX14_readName_152 (by decide) (fun c_1103 => ?_) (fun c_1103 => ?_)
                  · have fc_1103 := lt_f c_1103
                    have b_1104 : bd 1201 1201 t_ := ltR fc_1103 kb_1200 bt_ (by decide)
                    refine lv_iconst (v := 0) hx hb dX14_readName_159 (by decide) ?_
                    refine lv_iconst (v := 4) hx hb dX14_readName_160 (by decide) ?_
                    refine lv_iload_n hx hb dX14_readName_161 rfl (lv_at hl 4 rfl) ?_
                    have hs_1105 := sE_1 g 1 rfl (by have h9_0 := bo_; unfold bd at h9_0; have h9_1 := bop_; unfold bd at h9_1; have h9_2 := h_888; unfold bd at h9_2; have h9_3 := bso_; unfold bd at h9_3; have h9_4 := b_1104; unfold bd at h9_4; have h9_5 := b_1082; unfold bd at h9_5; have h9_6 := b_882; unfold bd at h9_6; have h9_7 := b_1092; unfold bd at h9_7; have h9_8 := h_19; unfold bd at h9_8; have h9_9 := bx_2; unfold bd at h9_9; have h9_10 := h_9; unfold bd at h9_10; have h8_0 := kb_0; unfold bd at h8_0; have h8_1 := kb_1; unfold bd at h8_1; have h8_2 := kb_1200; unfold bd at h8_2; have h8_3 := kb_2000; unfold bd at h8_3; have h8_4 := kb_m1; unfold bd at h8_4; omega)
                    have go_ := g
                    refine g_callEv (As := [.int 0, .int 4, .int x_2]) (rest := []) ⟨hx, hb, hml, hown, hts⟩ (r_X14_need_2 l dC dI L kd tys fr_1094 H.size g.2.2.2.1 a0_ ma0_ ka0_ 0 kb_0 4 x_2) (cwV 3 hts (gV_ t_2403 t_2405 t_100 t_198 t_2406) rfl rfl rfl (by decide +kernel) ⟨(show 1 + 1 ≤ N + 1 + 24 by omega), (show 8 + (4 + 11) + 22 ≤ 60 * (N + 1) + 700 by omega)⟩) (pre3V g hK ma0_ ka0_ (by decide) (q := (RX14, TX14, 67)) rfl) rfl hl.1 rfl (lv_room (Nat.le_of_ble_eq_true rfl)) dX14_readName_162 (cl_f hck_0) g hK (by decide) (by decide) (fx' := [(12, 58, q0_, .int x_1083), (14, 6, a0_, .int x_18), (14, 10, a0_, .int x_8), (14, 2, a0_, .ref q0_), (14, 16, a0_, .int o_), (14, 25, a0_, .int op_)]) rfl (fun xr_1106 fr_1106 H locs mxr_1106 kxr_1106 hp hMr_1106 g => ?_) (fun fr_1106 H locs hp hMr_1106 g => ?_)
                    · have hG_1107 := isV.frame hMr_1106 go_.2.2.2.1 mq0_ kq0_ (by decide) (by decide) hG_1099
                      have hG_1108 := FR.frame hMr_1106 go_.2.2.2.1 mq0_ kq0_ (by decide) (by decide) hG_1100
                      have hG_1109 := isN.frame hMr_1106 go_.2.2.2.1 ma0_ ka0_ (by decide) (by decide) hG_1101
                      have hG_1110 := cEq.frame hMr_1106 go_.2.2.2.1 ma0_ ka0_ (by decide) (by decide) hG_1102
                      subst hQ
                      exact leavesX hempty hlocks (fun t ht hW => g_thrZ g hK mxr_1106 kxr_1106 ⟨hG_1108, (by omega)⟩ ht hW) g.2.2.1.2.2
                    · exact hp.elim
                  · have fc_1103 := nlt_f c_1103
                    have b_1111 : bd 0 1200 t_ := leL fc_1103 bt_ kb_1200 (by decide)
                    refine lv_iconst (v := 1) hx hb dX14_readName_155 (by decide) ?_
                    refine lv_goto (tgt := 160) hx hb dX14_readName_156 (by decide) ?_
                    refine lv_iconst (v := 4) hx hb dX14_readName_160 (by decide) ?_
                    refine lv_iload_n hx hb dX14_readName_161 rfl (lv_at hl 4 rfl) ?_
                    have hs_1112 := sE_1 g 1 rfl (by have h9_0 := bo_; unfold bd at h9_0; have h9_1 := bop_; unfold bd at h9_1; have h9_2 := h_888; unfold bd at h9_2; have h9_3 := bso_; unfold bd at h9_3; have h9_4 := b_1111; unfold bd at h9_4; have h9_5 := b_1082; unfold bd at h9_5; have h9_6 := b_882; unfold bd at h9_6; have h9_7 := b_1092; unfold bd at h9_7; have h9_8 := h_19; unfold bd at h9_8; have h9_9 := bx_2; unfold bd at h9_9; have h9_10 := h_9; unfold bd at h9_10; have h8_0 := kb_0; unfold bd at h8_0; have h8_1 := kb_1; unfold bd at h8_1; have h8_2 := kb_1200; unfold bd at h8_2; have h8_3 := kb_2000; unfold bd at h8_3; have h8_4 := kb_m1; unfold bd at h8_4; omega)
                    have go_ := g
                    refine g_callEv (As := [.int 1, .int 4, .int x_2]) (rest := []) ⟨hx, hb, hml, hown, hts⟩ (r_X14_need_3 l dC dI L kd tys fr_1094 H.size g.2.2.2.1 a0_ ma0_ ka0_ 1 kb_1 4 x_2) (cwV 3 hts (gV_ t_2403 t_2405 t_100 t_198 t_2406) rfl rfl rfl (by decide +kernel) ⟨(show 0 + 1 ≤ N + 1 + 24 by omega), (show 8 + (4 + 11) + 0 ≤ 60 * (N + 1) + 700 by omega)⟩) (pre3V g hK ma0_ ka0_ (by decide) (q := (RX14, TX14, 67)) rfl) rfl hl.1 rfl (lv_room (Nat.le_of_ble_eq_true rfl)) dX14_readName_162 (cl_f hck_0) g hK (by decide) (by decide) (fx' := [(12, 58, q0_, .int x_1083), (14, 6, a0_, .int x_18), (14, 10, a0_, .int x_8), (14, 2, a0_, .ref q0_), (14, 16, a0_, .int o_), (14, 25, a0_, .int op_)]) rfl (fun xr_1113 fr_1113 H locs mxr_1113 kxr_1113 hp hMr_1113 g => ?_) (fun fr_1113 H locs hp hMr_1113 g => ?_)
                    · have hG_1114 := isV.frame hMr_1113 go_.2.2.2.1 mq0_ kq0_ (by decide) (by decide) hG_1099
                      have hG_1115 := FR.frame hMr_1113 go_.2.2.2.1 mq0_ kq0_ (by decide) (by decide) hG_1100
                      have hG_1116 := isN.frame hMr_1113 go_.2.2.2.1 ma0_ ka0_ (by decide) (by decide) hG_1101
                      have hG_1117 := cEq.frame hMr_1113 go_.2.2.2.1 ma0_ ka0_ (by decide) (by decide) hG_1102
                      exact hp.elim
                    · have hG_1118 := isV.frame hMr_1113 go_.2.2.2.1 mq0_ kq0_ (by decide) (by decide) hG_1099
                      have hG_1119 := FR.frame hMr_1113 go_.2.2.2.1 mq0_ kq0_ (by decide) (by decide) hG_1100
                      have hG_1120 := isN.frame hMr_1113 go_.2.2.2.1 ma0_ ka0_ (by decide) (by decide) hG_1101
                      have hG_1121 := cEq.frame hMr_1113 go_.2.2.2.1 ma0_ ka0_ (by decide) (by decide) hG_1102
                      refine lv_iload_n hx hb dX14_readName_165 rfl (lv_at hl 6 rfl) ?_
                      refine lv_if_eq (tgt := 185) hx hb dX14_readName_166 (by decide) (fun c_1122 => ?_) (fun c_1122 => ?_)
                      · have fc_1122 := eq_f c_1122
                        exact absurd fc_1122 fc_916
                      · have fc_1122 := neq_f c_1122
                        refine lv_aload_n hx hb dX14_readName_169 rfl (lv_at hl 5 rfl) ?_
                        refine g_getk (C := RX14) (T := TX14) (N := 67) hx hb hts (mc_ inX14) hown hK g rfl 2 (by decide) rfl (hts _ (List.mem_cons_of_mem _ t_2148)) (fun _ h9 => h9) 3 rfl dX14_readName_170 ?_
                        refine lv_dup hx hb dX14_readName_173 rfl ?_
                        refine g_getk (C := RX12) (T := TX12) (N := 60) hx hb hts (mc_ inX12) hown hK g rfl 58 (by decide) rfl (hts _ (List.mem_cons_of_mem _ t_2018)) (fun _ h9 => h9) 0 rfl dX14_readName_174 ?_
                        refine lv_iconst (v := 1) hx hb dX14_readName_177 (by decide) ?_
                        refine lv_iadd hx hb dX14_readName_178 ?_
                        refine lv_topi (fun y_1123 ey_1123 => ?_)
                        have ty_1123 := add_bd ey_1123 b_1092 kb_1 (by decide)
                        have b_1124 : bd (-2147483647) 2000 y_1123 := add_rg ty_1123 b_1092 kb_1 (by decide)
                        have gp_1125 := g
                        have go_ := g
                        refine g_putX (C := RX12) (T := TX12) (N := 60) hx hb hts (mc_ inX12) tyX12 tyX12_ok nmX12 hown hK g mq0_ kq0_ (by decide) rfl 58 (by decide) (hts _ (List.mem_cons_of_mem _ t_2018)) (fun _ h9 => h9) rfl rfl (okV_i (bd_sub b_1124 (by decide))) rfl rfl (by decide) (Or.inr (Or.inl (by decide))) (fx' := [(14, 6, a0_, .int x_18), (14, 10, a0_, .int x_8), (14, 2, a0_, .ref q0_), (14, 16, a0_, .int o_), (14, 25, a0_, .int op_)]) rfl dX14_readName_179 (fun f H locs hM_1126 u_1129 g => ?_)
                        have hG_1127 := isN.frame hM_1126 go_.2.2.2.1 ma0_ ka0_ (by decide) (by decide) hG_1120
                        have hG_1128 := cEq.frame hM_1126 go_.2.2.2.1 ma0_ ka0_ (by decide) (by decide) hG_1121
                        have hV_1130 := isV.u58 hG_1118 gp_1125.2.2.2.1 mq0_ kq0_ u_1129
                        have hF_1131 := FR.fld hG_1119 u_1129
                        refine lv_goto (tgt := 201) hx hb dX14_readName_182 (by decide) ?_
                        refine lv_iload hx hb dX14_readName_201 (lv_at hl 0 rfl) ?_
                        refine lv_if_eq (tgt := 275) hx hb dX14_readName_203 (by decide) (fun c_ => absurd c_ (by decide)) (fun c_ => ?_)
                        refine lv_aload_n hx hb dX14_readName_206 rfl (lv_at hl 5 rfl) ?_
                        refine g_getk (C := RX14) (T := TX14) (N := 67) hx hb hts (mc_ inX14) hown hK g rfl 2 (by decide) rfl (hts _ (List.mem_cons_of_mem _ t_2148)) (fun _ h9 => h9) 3 rfl dX14_readName_207 ?_
                        refine lv_aload_n hx hb dX14_readName_210 rfl (lv_at hl 5 rfl) ?_
                        refine g_getk (C := RX14) (T := TX14) (N := 67) hx hb hts (mc_ inX14) hown hK g rfl 16 (by decide) rfl (hts _ (List.mem_cons_of_mem _ t_2162)) (fun _ h9 => h9) 4 rfl dX14_readName_211 ?_
                        refine lv_lload hx hb dX14_readName_214 (lv_at hl 3 rfl) ?_
                        refine lv_lload hx hb dX14_readName_216 (lv_at hl 2 rfl) ?_
                        have hs_1132 := sE_1 g 1 rfl (by have h9_0 := bo_; unfold bd at h9_0; have h9_1 := bop_; unfold bd at h9_1; have h9_2 := h_888; unfold bd at h9_2; have h9_3 := bso_; unfold bd at h9_3; have h9_4 := b_1111; unfold bd at h9_4; have h9_5 := b_1082; unfold bd at h9_5; have h9_6 := b_882; unfold bd at h9_6; have h9_7 := b_1092; unfold bd at h9_7; have h9_8 := h_19; unfold bd at h9_8; have h9_9 := bx_2; unfold bd at h9_9; have h9_10 := h_9; unfold bd at h9_10; have h9_11 := b_1124; unfold bd at h9_11; have h8_0 := kb_0; unfold bd at h8_0; have h8_1 := kb_1; unfold bd at h8_1; have h8_2 := kb_1200; unfold bd at h8_2; have h8_3 := kb_2000; unfold bd at h8_3; have h8_4 := kb_m1; unfold bd at h8_4; omega)
                        have go_ := g
                        refine g_calli (va_runV (As := [.int o_, .long x_3, .long x_4]) (rest := []) ⟨hx, hb, hml, hown, hts⟩ (r_X12_findN l dC dI L kd tys f H.size g.2.2.2.1 q0_ mq0_ kq0_ o_ (bd_sub bo_ (by decide)) x_3 x_4 V_ hV_1130) (cwV 3 hts (gV_ t_2500 t_2501 t_2502 t_203 t_2503) rfl rfl rfl (by decide +kernel) ⟨(show 0 + 1 ≤ N + 1 + 24 by omega), (show 8 + (7 + 11) + 0 ≤ 60 * (N + 1) + 700 by omega)⟩) (pre3V g hK mq0_ kq0_ (by decide) (q := (RX12, TX12, 60)) rfl) rfl rfl hl.1 rfl (lv_room (Nat.le_of_ble_eq_true rfl)) dX14_readName_218 (cl_f hck_0)) g hK (by decide) (by decide) (fx' := [(12, 58, q0_, .int y_1123), (14, 6, a0_, .int x_18), (14, 10, a0_, .int x_8), (14, 2, a0_, .ref q0_), (14, 16, a0_, .int o_), (14, 25, a0_, .int op_)]) rfl (fun r_1133 fr_1133 H locs hp hMr_1133 g => ?_)
                        rcases hp with ⟨hx_1134, h_1135, -⟩ | ⟨hx_1136, h_1137, -⟩
                        · have hG_1138 := isN.frame hMr_1133 go_.2.2.2.1 ma0_ ka0_ (by decide) (by decide) hG_1127
                          have hG_1139 := cEq.frame hMr_1133 go_.2.2.2.1 ma0_ ka0_ (by decide) (by decide) hG_1128
                          have hG_1140 := isV.frame hMr_1133 go_.2.2.2.1 mq0_ kq0_ (by decide) (by decide) hV_1130
                          have hG_1141 := FR.frame hMr_1133 go_.2.2.2.1 mq0_ kq0_ (by decide) (by decide) hF_1131
                          obtain rfl : r_1133 = (-1) := h_1135
                          exact absurd hf_903 hx_1134
                        · have hG_1142 := isN.frame hMr_1133 go_.2.2.2.1 ma0_ ka0_ (by decide) (by decide) hG_1127
                          have hG_1143 := cEq.frame hMr_1133 go_.2.2.2.1 ma0_ ka0_ (by decide) (by decide) hG_1128
                          have hG_1144 := isV.frame hMr_1133 go_.2.2.2.1 mq0_ kq0_ (by decide) (by decide) hV_1130
                          have hG_1145 := FR.frame hMr_1133 go_.2.2.2.1 mq0_ kq0_ (by decide) (by decide) hF_1131
                          have hf_1146 := hx_1136.fnd_
                          refine lv_istore (lv' := [(10, .int r_1133), (9, .int 1), (8, .int t_), (6, .long x_4), (4, .long x_3), (3, .int x_2), (0, .ref a0_), (1, .int x1_), (2, .int x2_)]) hx hb dX14_readName_221 hl (by decide) rfl (fun ls hl => ?_)
                          have join_1147 : ∀ (g261_14_22_a0_ : Int32) (f : Nat → va_E) (H : Heap) (locs : List Loc) (ls : Array Slot), bd 0 1 g261_14_22_a0_ → G3 (dC, dI) L kd tys s f0 [(12, 57), (12, 58), (14, 6), (14, 7), (14, 8), (14, 9), (14, 10), (14, 11), (14, 12), (14, 13), (14, 14), (14, 15), (14, 25)] [180, 201, 202, 203, 204, 205, 206, 207, 208, 209, 210] f H locs [(14, 22, a0_, .int g261_14_22_a0_), (12, 58, q0_, .int y_1123), (14, 6, a0_, .int x_18), (14, 10, a0_, .int x_8), (14, 2, a0_, .ref q0_), (14, 16, a0_, .int o_), (14, 25, a0_, .int op_)] → isN f a0_ N_ → cEq f a0_ E_14 → isV f q0_ V_ → FR L kd f0 f q0_ → lv_has ls 11 [(10, .int r_1133), (9, .int 1), (8, .int t_), (6, .long x_4), (4, .long x_3), (3, .int x_2), (0, .ref a0_), (1, .int x1_), (2, .int x2_)] → W p l e ({ frames := (N + 1) + 24, cells := K_, slots := 3 * K_, locals := 60 * (N + 1) + 700 } : Room) s m [.ref a0_, .int x1_, .int x2_].toArray below meth c H locs cl_0 (3 * cl_0) Q (F0 m 261 ls []) := by
                            intro g261_14_22_a0_ f H locs ls bg261_14_22_a0_ g hJ261_N_a0_ hJ261_C_a0_ hJ261_V_q0_ hJ261_F_q0_ hl
                            refine lv_aload_n hx hb dX14_readName_261 rfl (lv_at hl 6 rfl) ?_
                            refine lv_iconst (v := 3) hx hb dX14_readName_262 (by decide) ?_
                            refine lv_iload hx hb dX14_readName_263 (lv_at hl 0 rfl) ?_
                            refine lv_lload hx hb dX14_readName_265 (lv_at hl 4 rfl) ?_
                            refine lv_lload hx hb dX14_readName_267 (lv_at hl 3 rfl) ?_
                            refine lv_iload_n hx hb dX14_readName_269 rfl (lv_at hl 5 rfl) ?_
                            refine lv_iload_n hx hb dX14_readName_270 rfl (lv_at hl 7 rfl) ?_
                            have qc__1148 : cF f a0_ = _ := hJ261_C_a0_
                            have hs_1149 := sE_1 g 2 rfl (by have h9_0 := bg261_14_22_a0_; unfold bd at h9_0; have h9_1 := bo_; unfold bd at h9_1; have h9_2 := bop_; unfold bd at h9_2; have h9_3 := h_1137; unfold bd at h9_3; have h9_4 := h_888; unfold bd at h9_4; have h9_5 := bso_; unfold bd at h9_5; have h9_6 := b_1111; unfold bd at h9_6; have h9_7 := b_1082; unfold bd at h9_7; have h9_8 := b_882; unfold bd at h9_8; have h9_9 := b_1092; unfold bd at h9_9; have h9_10 := h_19; unfold bd at h9_10; have h9_11 := bx_2; unfold bd at h9_11; have h9_12 := h_9; unfold bd at h9_12; have h9_13 := b_1124; unfold bd at h9_13; have h8_0 := kb_0; unfold bd at h8_0; have h8_1 := kb_1; unfold bd at h8_1; have h8_2 := kb_1200; unfold bd at h8_2; have h8_3 := kb_2000; unfold bd at h8_3; have h8_4 := kb_m1; unfold bd at h8_4; omega)
                            have b_1150 : bd 0 1201 x_8 := ⟨(by have h9_0 := bg261_14_22_a0_; unfold bd at h9_0; have h9_1 := bo_; unfold bd at h9_1; have h9_2 := bop_; unfold bd at h9_2; have h9_3 := h_1137; unfold bd at h9_3; have h9_4 := h_888; unfold bd at h9_4; have h9_5 := bso_; unfold bd at h9_5; have h9_6 := b_1111; unfold bd at h9_6; have h9_7 := b_1082; unfold bd at h9_7; have h9_8 := b_882; unfold bd at h9_8; have h9_9 := b_1092; unfold bd at h9_9; have h9_10 := h_19; unfold bd at h9_10; have h9_11 := bx_2; unfold bd at h9_11; have h9_12 := h_9; unfold bd at h9_12; have h9_13 := b_1124; unfold bd at h9_13; have h8_0 := kb_0; unfold bd at h8_0; have h8_1 := kb_1; unfold bd at h8_1; have h8_2 := kb_1200; unfold bd at h8_2; have h8_3 := kb_2000; unfold bd at h8_3; have h8_4 := kb_m1; unfold bd at h8_4; omega), (by have h9_0 := bg261_14_22_a0_; unfold bd at h9_0; have h9_1 := bo_; unfold bd at h9_1; have h9_2 := bop_; unfold bd at h9_2; have h9_3 := h_1137; unfold bd at h9_3; have h9_4 := h_888; unfold bd at h9_4; have h9_5 := bso_; unfold bd at h9_5; have h9_6 := b_1111; unfold bd at h9_6; have h9_7 := b_1082; unfold bd at h9_7; have h9_8 := b_882; unfold bd at h9_8; have h9_9 := b_1092; unfold bd at h9_9; have h9_10 := h_19; unfold bd at h9_10; have h9_11 := bx_2; unfold bd at h9_11; have h9_12 := h_9; unfold bd at h9_12; have h9_13 := b_1124; unfold bd at h9_13; have h8_0 := kb_0; unfold bd at h8_0; have h8_1 := kb_1; unfold bd at h8_1; have h8_2 := kb_1200; unfold bd at h8_2; have h8_3 := kb_2000; unfold bd at h8_3; have h8_4 := kb_m1; unfold bd at h8_4; omega)⟩
                            have go_ := g
                            refine g_callZi (As := [.int 3, .int r_1133, .long x_3, .long x_4, .int x_2, .int x1_]) (rest := []) ⟨hx, hb, hml, hown, hts⟩ (ih.2.2.2.2.2.2 l dC dI L kd tys f H.size g.2.2.2.1 adK adV a0_ ma0_ ka0_ (3 : Int32) r_1133 h_1137 x_3 x_4 x_2 x1_ (bd_sub b_1082 (by decide)) q0_ mq0_ kq0_ V_ o_ bo_ op_ bop_ x_8 b_1150 hJ261_V_q0_ hwf ho (by omega) hm_ hhm (by decide) (fun _ => hf_1146) (fun h9 => absurd h9 (by decide)) (K_ - cl_0) (by omega) (by have h9_0 := bg261_14_22_a0_; unfold bd at h9_0; have h9_1 := bo_; unfold bd at h9_1; have h9_2 := bop_; unfold bd at h9_2; have h9_3 := h_1137; unfold bd at h9_3; have h9_4 := h_888; unfold bd at h9_4; have h9_5 := bso_; unfold bd at h9_5; have h9_6 := b_1111; unfold bd at h9_6; have h9_7 := b_1082; unfold bd at h9_7; have h9_8 := b_882; unfold bd at h9_8; have h9_9 := b_1092; unfold bd at h9_9; have h9_10 := h_19; unfold bd at h9_10; have h9_11 := bx_2; unfold bd at h9_11; have h9_12 := b_1150; unfold bd at h9_12; have h9_13 := b_1124; unfold bd at h9_13; have h8_0 := kb_0; unfold bd at h8_0; have h8_1 := kb_1; unfold bd at h8_1; have h8_2 := kb_1200; unfold bd at h8_2; have h8_3 := kb_2000; unfold bd at h8_3; have h8_4 := kb_m1; unfold bd at h8_4; omega) (g.fcts [4, 5, 6, 3] rfl)) (cwV 6 hts (gV_ t_2508 t_2510 t_123 t_198 t_2511) rfl rfl rfl (by decide +kernel) ⟨(show N + 24 + 1 ≤ N + 1 + 24 by omega), (show 8 + (16 + 11) + (60 * N + 700) ≤ 60 * (N + 1) + 700 by omega)⟩) (pre3VA g hK hAm ma0_ ka0_ (by decide) (q := (RX14, TX14, 67)) rfl) rfl hl.1 rfl (lv_room (Nat.le_of_ble_eq_true rfl)) dX14_readName_271 (cl_k (K := K_) (k := K_ - cl_0) (show cl_0 + (K_ - cl_0) ≤ K_ by omega)) g hK (by decide) (by decide) (fx' := [(14, 22, a0_, .int g261_14_22_a0_), (14, 2, a0_, .ref q0_), (14, 16, a0_, .int o_)]) rfl (fun xr_1151 fr_1151 H locs kr_1151 cr_1151 ecr_1151 mxr_1151 kxr_1151 hp hMr_1151 g => ?_) (fun r_1151 fr_1151 H locs kr_1151 cr_1151 ecr_1151 hp hMr_1151 g => ?_)
                            · have hG_1152 := isN.frame hMr_1151 go_.2.2.2.1 ma0_ ka0_ (by decide) (by decide) hJ261_N_a0_
                              have hF_1153 := FR.call (mds := []) (mas := []) hJ261_F_q0_ go_ mq0_ kq0_ rfl hp.1
                              have hpk := hp.2
                              subst hQ
                              exact leavesX hempty hlocks (fun t ht hW => g_thrZ g hK mxr_1151 kxr_1151 ⟨hF_1153, (by omega)⟩ ht hW) g.2.2.1.2.2
                            · obtain ⟨hx_1154, x_1155, h_1156, hF_1157⟩ := hp
                              have hG_1158 := isN.frame hMr_1151 go_.2.2.2.1 ma0_ ka0_ (by decide) (by decide) hJ261_N_a0_
                              obtain ⟨V_1159, E_1160, hV_1161, hF_1162, hE_1163, hX_1164, hw_1165, hv_1166, hP_1167, hn_1168, hk_1169, hc_1170⟩ := rd_use hx_1154 hJ261_C_a0_
                              have hF_1171 := FR.call (mds := []) (mas := []) hJ261_F_q0_ go_ mq0_ kq0_ rfl hF_1162
                              have mxE_1160 : E_1160 ≤ 1202 := by have h9 := cF_le g ma0_ ka0_; have h8 : cF _ _ = _ := hE_1163; omega
                              have hx_1172 := exN.tr exN.rf hX_1164
                              have hf_1173 := (exN.fnd_ hX_1164).mpr hf_1146
                              have hck_1174 : cr_1151 ≤ K_ := by omega
                              have b_1175 : bd 0 2499 r_1151 := ⟨hv_1166.1, (by have h9 := hv_1166.2.1; omega)⟩
                              have g := g.more hF_1157
                              have h9c : cF fr_1151 a0_ = _ := hE_1163
                              subst hQ
                              exact iretX (v := r_1151) hx hb hr (fun t ht hW => g_retZ g hK ⟨_, rfl, ⟨⟨_, hV_1161, hF_1171, hx_1172, hw_1165, hv_1166, ⟨Or.inr (hP_1167.trans (by decide)), (fun h9 => absurd h9 (by have h8 := b_882; unfold bd at h8; omega))⟩, (by omega), (by omega), (by omega)⟩, x_1155, h_1156, (g.fcts [0, 1] rfl)⟩⟩ ht hW) g.2.2.1.2.2 dX14_readName_274 hlocks
                          refine lv_aload_n hx hb dX14_readName_223 rfl (lv_at hl 6 rfl) ?_
                          refine lv_aload_n hx hb dX14_readName_224 rfl (lv_at hl 6 rfl) ?_
                          refine g_geti (C := RX14) (T := TX14) (N := 67) hx hb hts (mc_ inX14) hown hK g ma0_ ka0_ (by decide) rfl 22 (by decide) rfl (hts _ (List.mem_cons_of_mem _ t_2168)) (fun _ h9 => h9) rfl dX14_readName_225 (fun x_1176 bx_1176 g => ?_)
                          refine lv_if_ne (tgt := 238) hx hb dX14_readName_228 (by decide) (fun c_1177 => ?_) (fun c_1177 => ?_)
                          · have fc_1177 := neq_f c_1177
                            have b_1178 : bd 1 1 x_1176 := neX fc_1177 bx_1176 kb_0 (by decide)
                            refine lv_aload_n hx hb dX14_readName_238 rfl (lv_at hl 6 rfl) ?_
                            refine g_getk (C := RX14) (T := TX14) (N := 67) hx hb hts (mc_ inX14) hown hK g rfl 2 (by decide) rfl (hts _ (List.mem_cons_of_mem _ t_2148)) (fun _ h9 => h9) 4 rfl dX14_readName_239 ?_
                            refine g_getr (K := 182) (C := RX12) (T := TX12) (N := 60) hx hb hts (mc_ inX12) hown hK g mq0_ kq0_ (by decide) rfl 26 (by decide) rfl (hts _ (List.mem_cons_of_mem _ t_1958)) (fun _ h9 => h9) rfl dX14_readName_242 (fun a_1179 ma_1179 ka_1179 g => ?_)
                            refine lv_iload hx hb dX14_readName_245 (lv_at hl 0 rfl) ?_
                            refine g_zald hx hb hK g ma_1179 ka_1179 (by decide) rfl (in_bd h_1137 (by decide)) dX14_readName_247 (fun x_1180 bx_1180 => ?_)
                            refine lv_if_eq (tgt := 255) hx hb dX14_readName_248 (by decide) (fun c_1181 => ?_) (fun c_1181 => ?_)
                            · have fc_1181 := eq_f c_1181
                              have b_1182 : bd 0 0 x_1180 := eqX fc_1181 bx_1180 kb_0 (by decide)
                              refine lv_iconst (v := 0) hx hb dX14_readName_255 (by decide) ?_
                              refine lv_iconst (v := 5) hx hb dX14_readName_256 (by decide) ?_
                              refine lv_iload_n hx hb dX14_readName_257 rfl (lv_at hl 5 rfl) ?_
                              have hs_1183 := sE_1 g 3 rfl (by have h9_0 := bo_; unfold bd at h9_0; have h9_1 := bop_; unfold bd at h9_1; have h9_2 := h_1137; unfold bd at h9_2; have h9_3 := h_888; unfold bd at h9_3; have h9_4 := bso_; unfold bd at h9_4; have h9_5 := b_1111; unfold bd at h9_5; have h9_6 := b_1082; unfold bd at h9_6; have h9_7 := b_882; unfold bd at h9_7; have h9_8 := b_1092; unfold bd at h9_8; have h9_9 := b_1178; unfold bd at h9_9; have h9_10 := b_1182; unfold bd at h9_10; have h9_11 := h_19; unfold bd at h9_11; have h9_12 := bx_2; unfold bd at h9_12; have h9_13 := h_9; unfold bd at h9_13; have h9_14 := b_1124; unfold bd at h9_14; have h8_0 := kb_0; unfold bd at h8_0; have h8_1 := kb_1; unfold bd at h8_1; have h8_2 := kb_1200; unfold bd at h8_2; have h8_3 := kb_2000; unfold bd at h8_3; have h8_4 := kb_m1; unfold bd at h8_4; omega)
                              have go_ := g
                              refine g_callEv (As := [.int 0, .int 5, .int x_2]) (rest := []) ⟨hx, hb, hml, hown, hts⟩ (r_X14_need_2 l dC dI L kd tys fr_1133 H.size g.2.2.2.1 a0_ ma0_ ka0_ 0 kb_0 5 x_2) (cwV 3 hts (gV_ t_2403 t_2405 t_100 t_198 t_2406) rfl rfl rfl (by decide +kernel) ⟨(show 1 + 1 ≤ N + 1 + 24 by omega), (show 8 + (4 + 11) + 22 ≤ 60 * (N + 1) + 700 by omega)⟩) (pre3V g hK ma0_ ka0_ (by decide) (q := (RX14, TX14, 67)) rfl) rfl hl.1 rfl (lv_room (Nat.le_of_ble_eq_true rfl)) dX14_readName_258 (cl_f hck_0) g hK (by decide) (by decide) (fx' := [(12, 26, q0_, .ref a_1179), (14, 22, a0_, .int x_1176), (12, 58, q0_, .int y_1123), (14, 6, a0_, .int x_18), (14, 10, a0_, .int x_8), (14, 2, a0_, .ref q0_), (14, 16, a0_, .int o_), (14, 25, a0_, .int op_)]) rfl (fun xr_1184 fr_1184 H locs mxr_1184 kxr_1184 hp hMr_1184 g => ?_) (fun fr_1184 H locs hp hMr_1184 g => ?_)
                              · have hG_1185 := isN.frame hMr_1184 go_.2.2.2.1 ma0_ ka0_ (by decide) (by decide) hG_1142
                                have hG_1186 := cEq.frame hMr_1184 go_.2.2.2.1 ma0_ ka0_ (by decide) (by decide) hG_1143
                                have hG_1187 := isV.frame hMr_1184 go_.2.2.2.1 mq0_ kq0_ (by decide) (by decide) hG_1144
                                have hG_1188 := FR.frame hMr_1184 go_.2.2.2.1 mq0_ kq0_ (by decide) (by decide) hG_1145
                                subst hQ
                                exact leavesX hempty hlocks (fun t ht hW => g_thrZ g hK mxr_1184 kxr_1184 ⟨hG_1188, (by omega)⟩ ht hW) g.2.2.1.2.2
                              · exact hp.elim
                            · have fc_1181 := neq_f c_1181
                              have b_1189 : bd 1 1 x_1180 := neX fc_1181 bx_1180 kb_0 (by decide)
                              refine lv_iconst (v := 1) hx hb dX14_readName_251 (by decide) ?_
                              refine lv_goto (tgt := 256) hx hb dX14_readName_252 (by decide) ?_
                              refine lv_iconst (v := 5) hx hb dX14_readName_256 (by decide) ?_
                              refine lv_iload_n hx hb dX14_readName_257 rfl (lv_at hl 5 rfl) ?_
                              have hs_1190 := sE_1 g 3 rfl (by have h9_0 := bo_; unfold bd at h9_0; have h9_1 := bop_; unfold bd at h9_1; have h9_2 := h_1137; unfold bd at h9_2; have h9_3 := h_888; unfold bd at h9_3; have h9_4 := bso_; unfold bd at h9_4; have h9_5 := b_1111; unfold bd at h9_5; have h9_6 := b_1082; unfold bd at h9_6; have h9_7 := b_882; unfold bd at h9_7; have h9_8 := b_1092; unfold bd at h9_8; have h9_9 := b_1178; unfold bd at h9_9; have h9_10 := b_1189; unfold bd at h9_10; have h9_11 := h_19; unfold bd at h9_11; have h9_12 := bx_2; unfold bd at h9_12; have h9_13 := h_9; unfold bd at h9_13; have h9_14 := b_1124; unfold bd at h9_14; have h8_0 := kb_0; unfold bd at h8_0; have h8_1 := kb_1; unfold bd at h8_1; have h8_2 := kb_1200; unfold bd at h8_2; have h8_3 := kb_2000; unfold bd at h8_3; have h8_4 := kb_m1; unfold bd at h8_4; omega)
                              have go_ := g
                              refine g_callEv (As := [.int 1, .int 5, .int x_2]) (rest := []) ⟨hx, hb, hml, hown, hts⟩ (r_X14_need_3 l dC dI L kd tys fr_1133 H.size g.2.2.2.1 a0_ ma0_ ka0_ 1 kb_1 5 x_2) (cwV 3 hts (gV_ t_2403 t_2405 t_100 t_198 t_2406) rfl rfl rfl (by decide +kernel) ⟨(show 0 + 1 ≤ N + 1 + 24 by omega), (show 8 + (4 + 11) + 0 ≤ 60 * (N + 1) + 700 by omega)⟩) (pre3V g hK ma0_ ka0_ (by decide) (q := (RX14, TX14, 67)) rfl) rfl hl.1 rfl (lv_room (Nat.le_of_ble_eq_true rfl)) dX14_readName_258 (cl_f hck_0) g hK (by decide) (by decide) (fx' := [(12, 26, q0_, .ref a_1179), (14, 22, a0_, .int x_1176), (12, 58, q0_, .int y_1123), (14, 6, a0_, .int x_18), (14, 10, a0_, .int x_8), (14, 2, a0_, .ref q0_), (14, 16, a0_, .int o_), (14, 25, a0_, .int op_)]) rfl (fun xr_1191 fr_1191 H locs mxr_1191 kxr_1191 hp hMr_1191 g => ?_) (fun fr_1191 H locs hp hMr_1191 g => ?_)
                              · have hG_1192 := isN.frame hMr_1191 go_.2.2.2.1 ma0_ ka0_ (by decide) (by decide) hG_1142
                                have hG_1193 := cEq.frame hMr_1191 go_.2.2.2.1 ma0_ ka0_ (by decide) (by decide) hG_1143
                                have hG_1194 := isV.frame hMr_1191 go_.2.2.2.1 mq0_ kq0_ (by decide) (by decide) hG_1144
                                have hG_1195 := FR.frame hMr_1191 go_.2.2.2.1 mq0_ kq0_ (by decide) (by decide) hG_1145
                                exact hp.elim
                              · have hG_1196 := isN.frame hMr_1191 go_.2.2.2.1 ma0_ ka0_ (by decide) (by decide) hG_1142
                                have hG_1197 := cEq.frame hMr_1191 go_.2.2.2.1 ma0_ ka0_ (by decide) (by decide) hG_1143
                                have hG_1198 := isV.frame hMr_1191 go_.2.2.2.1 mq0_ kq0_ (by decide) (by decide) hG_1144
                                have hG_1199 := FR.frame hMr_1191 go_.2.2.2.1 mq0_ kq0_ (by decide) (by decide) hG_1145
                                have hl9 := lv_sub hl [0, 1, 2, 3, 4, 5, 6, 7, 8] (by rfl : lv_pick [(10, .int r_1133), (9, .int 1), (8, .int t_), (6, .long x_4), (4, .long x_3), (3, .int x_2), (0, .ref a0_), (1, .int x1_), (2, .int x2_)] [0, 1, 2, 3, 4, 5, 6, 7, 8] = [(10, .int r_1133), (9, .int 1), (8, .int t_), (6, .long x_4), (4, .long x_3), (3, .int x_2), (0, .ref a0_), (1, .int x1_), (2, .int x2_)])
                                have g9 := g.sub (fx' := [(14, 22, a0_, .int x_1176), (12, 58, q0_, .int y_1123), (14, 6, a0_, .int x_18), (14, 10, a0_, .int x_8), (14, 2, a0_, .ref q0_), (14, 16, a0_, .int o_), (14, 25, a0_, .int op_)]) [1, 2, 3, 4, 5, 6, 7] rfl
                                exact join_1147 x_1176 _ _ _ _ (bd_sub b_1178 (by decide)) g9 hG_1196 hG_1197 hG_1198 hG_1199 hl9
                          · have fc_1177 := eq_f c_1177
                            have b_1200 : bd 0 0 x_1176 := eqX fc_1177 bx_1176 kb_0 (by decide)
                            refine lv_aload_n hx hb dX14_readName_231 rfl (lv_at hl 6 rfl) ?_
                            refine g_geti (C := RX14) (T := TX14) (N := 67) hx hb hts (mc_ inX14) hown hK g ma0_ ka0_ (by decide) rfl 24 (by decide) rfl (hts _ (List.mem_cons_of_mem _ t_2170)) (fun _ h9 => h9) rfl dX14_readName_232 (fun x_1201 bx_1201 g => ?_)
                            refine lv_if_eq (tgt := 251) hx hb dX14_readName_235 (by decide) (fun c_1202 => ?_) (fun c_1202 => ?_)
                            · have fc_1202 := eq_f c_1202
                              have b_1203 : bd 0 0 x_1201 := eqX fc_1202 bx_1201 kb_0 (by decide)
                              refine lv_iconst (v := 1) hx hb dX14_readName_251 (by decide) ?_
                              refine lv_goto (tgt := 256) hx hb dX14_readName_252 (by decide) ?_
                              refine lv_iconst (v := 5) hx hb dX14_readName_256 (by decide) ?_
                              refine lv_iload_n hx hb dX14_readName_257 rfl (lv_at hl 5 rfl) ?_
                              have hs_1204 := sE_1 g 3 rfl (by have h9_0 := bo_; unfold bd at h9_0; have h9_1 := bop_; unfold bd at h9_1; have h9_2 := h_1137; unfold bd at h9_2; have h9_3 := h_888; unfold bd at h9_3; have h9_4 := bso_; unfold bd at h9_4; have h9_5 := b_1111; unfold bd at h9_5; have h9_6 := b_1082; unfold bd at h9_6; have h9_7 := b_882; unfold bd at h9_7; have h9_8 := b_1092; unfold bd at h9_8; have h9_9 := b_1200; unfold bd at h9_9; have h9_10 := b_1203; unfold bd at h9_10; have h9_11 := h_19; unfold bd at h9_11; have h9_12 := bx_2; unfold bd at h9_12; have h9_13 := h_9; unfold bd at h9_13; have h9_14 := b_1124; unfold bd at h9_14; have h8_0 := kb_0; unfold bd at h8_0; have h8_1 := kb_1; unfold bd at h8_1; have h8_2 := kb_1200; unfold bd at h8_2; have h8_3 := kb_2000; unfold bd at h8_3; have h8_4 := kb_m1; unfold bd at h8_4; omega)
                              have go_ := g
                              refine g_callEv (As := [.int 1, .int 5, .int x_2]) (rest := []) ⟨hx, hb, hml, hown, hts⟩ (r_X14_need_3 l dC dI L kd tys fr_1133 H.size g.2.2.2.1 a0_ ma0_ ka0_ 1 kb_1 5 x_2) (cwV 3 hts (gV_ t_2403 t_2405 t_100 t_198 t_2406) rfl rfl rfl (by decide +kernel) ⟨(show 0 + 1 ≤ N + 1 + 24 by omega), (show 8 + (4 + 11) + 0 ≤ 60 * (N + 1) + 700 by omega)⟩) (pre3V g hK ma0_ ka0_ (by decide) (q := (RX14, TX14, 67)) rfl) rfl hl.1 rfl (lv_room (Nat.le_of_ble_eq_true rfl)) dX14_readName_258 (cl_f hck_0) g hK (by decide) (by decide) (fx' := [(14, 24, a0_, .int x_1201), (14, 22, a0_, .int x_1176), (12, 58, q0_, .int y_1123), (14, 6, a0_, .int x_18), (14, 10, a0_, .int x_8), (14, 2, a0_, .ref q0_), (14, 16, a0_, .int o_), (14, 25, a0_, .int op_)]) rfl (fun xr_1205 fr_1205 H locs mxr_1205 kxr_1205 hp hMr_1205 g => ?_) (fun fr_1205 H locs hp hMr_1205 g => ?_)
                              · have hG_1206 := isN.frame hMr_1205 go_.2.2.2.1 ma0_ ka0_ (by decide) (by decide) hG_1142
                                have hG_1207 := cEq.frame hMr_1205 go_.2.2.2.1 ma0_ ka0_ (by decide) (by decide) hG_1143
                                have hG_1208 := isV.frame hMr_1205 go_.2.2.2.1 mq0_ kq0_ (by decide) (by decide) hG_1144
                                have hG_1209 := FR.frame hMr_1205 go_.2.2.2.1 mq0_ kq0_ (by decide) (by decide) hG_1145
                                exact hp.elim
                              · have hG_1210 := isN.frame hMr_1205 go_.2.2.2.1 ma0_ ka0_ (by decide) (by decide) hG_1142
                                have hG_1211 := cEq.frame hMr_1205 go_.2.2.2.1 ma0_ ka0_ (by decide) (by decide) hG_1143
                                have hG_1212 := isV.frame hMr_1205 go_.2.2.2.1 mq0_ kq0_ (by decide) (by decide) hG_1144
                                have hG_1213 := FR.frame hMr_1205 go_.2.2.2.1 mq0_ kq0_ (by decide) (by decide) hG_1145
                                have hl9 := lv_sub hl [0, 1, 2, 3, 4, 5, 6, 7, 8] (by rfl : lv_pick [(10, .int r_1133), (9, .int 1), (8, .int t_), (6, .long x_4), (4, .long x_3), (3, .int x_2), (0, .ref a0_), (1, .int x1_), (2, .int x2_)] [0, 1, 2, 3, 4, 5, 6, 7, 8] = [(10, .int r_1133), (9, .int 1), (8, .int t_), (6, .long x_4), (4, .long x_3), (3, .int x_2), (0, .ref a0_), (1, .int x1_), (2, .int x2_)])
                                have g9 := g.sub (fx' := [(14, 22, a0_, .int x_1176), (12, 58, q0_, .int y_1123), (14, 6, a0_, .int x_18), (14, 10, a0_, .int x_8), (14, 2, a0_, .ref q0_), (14, 16, a0_, .int o_), (14, 25, a0_, .int op_)]) [1, 2, 3, 4, 5, 6, 7] rfl
                                exact join_1147 x_1176 _ _ _ _ (bd_sub b_1200 (by decide)) g9 hG_1210 hG_1211 hG_1212 hG_1213 hl9
                            · have fc_1202 := neq_f c_1202
                              have b_1214 : bd 1 1 x_1201 := neX fc_1202 bx_1201 kb_0 (by decide)
                              refine lv_aload_n hx hb dX14_readName_238 rfl (lv_at hl 6 rfl) ?_
                              refine g_getk (C := RX14) (T := TX14) (N := 67) hx hb hts (mc_ inX14) hown hK g rfl 2 (by decide) rfl (hts _ (List.mem_cons_of_mem _ t_2148)) (fun _ h9 => h9) 5 rfl dX14_readName_239 ?_
                              refine g_getr (K := 182) (C := RX12) (T := TX12) (N := 60) hx hb hts (mc_ inX12) hown hK g mq0_ kq0_ (by decide) rfl 26 (by decide) rfl (hts _ (List.mem_cons_of_mem _ t_1958)) (fun _ h9 => h9) rfl dX14_readName_242 (fun a_1215 ma_1215 ka_1215 g => ?_)
                              refine lv_iload hx hb dX14_readName_245 (lv_at hl 0 rfl) ?_
                              refine g_zald hx hb hK g ma_1215 ka_1215 (by decide) rfl (in_bd h_1137 (by decide)) dX14_readName_247 (fun x_1216 bx_1216 => ?_)
                              refine lv_if_eq (tgt := 255) hx hb dX14_readName_248 (by decide) (fun c_1217 => ?_) (fun c_1217 => ?_)
                              · have fc_1217 := eq_f c_1217
                                have b_1218 : bd 0 0 x_1216 := eqX fc_1217 bx_1216 kb_0 (by decide)
                                refine lv_iconst (v := 0) hx hb dX14_readName_255 (by decide) ?_
                                refine lv_iconst (v := 5) hx hb dX14_readName_256 (by decide) ?_
                                refine lv_iload_n hx hb dX14_readName_257 rfl (lv_at hl 5 rfl) ?_
                                have hs_1219 := sE_1 g 4 rfl (by have h9_0 := bo_; unfold bd at h9_0; have h9_1 := bop_; unfold bd at h9_1; have h9_2 := h_1137; unfold bd at h9_2; have h9_3 := h_888; unfold bd at h9_3; have h9_4 := bso_; unfold bd at h9_4; have h9_5 := b_1111; unfold bd at h9_5; have h9_6 := b_1082; unfold bd at h9_6; have h9_7 := b_882; unfold bd at h9_7; have h9_8 := b_1092; unfold bd at h9_8; have h9_9 := b_1200; unfold bd at h9_9; have h9_10 := b_1214; unfold bd at h9_10; have h9_11 := b_1218; unfold bd at h9_11; have h9_12 := h_19; unfold bd at h9_12; have h9_13 := bx_2; unfold bd at h9_13; have h9_14 := h_9; unfold bd at h9_14; have h9_15 := b_1124; unfold bd at h9_15; have h8_0 := kb_0; unfold bd at h8_0; have h8_1 := kb_1; unfold bd at h8_1; have h8_2 := kb_1200; unfold bd at h8_2; have h8_3 := kb_2000; unfold bd at h8_3; have h8_4 := kb_m1; unfold bd at h8_4; omega)
                                have go_ := g
                                refine g_callEv (As := [.int 0, .int 5, .int x_2]) (rest := []) ⟨hx, hb, hml, hown, hts⟩ (r_X14_need_2 l dC dI L kd tys fr_1133 H.size g.2.2.2.1 a0_ ma0_ ka0_ 0 kb_0 5 x_2) (cwV 3 hts (gV_ t_2403 t_2405 t_100 t_198 t_2406) rfl rfl rfl (by decide +kernel) ⟨(show 1 + 1 ≤ N + 1 + 24 by omega), (show 8 + (4 + 11) + 22 ≤ 60 * (N + 1) + 700 by omega)⟩) (pre3V g hK ma0_ ka0_ (by decide) (q := (RX14, TX14, 67)) rfl) rfl hl.1 rfl (lv_room (Nat.le_of_ble_eq_true rfl)) dX14_readName_258 (cl_f hck_0) g hK (by decide) (by decide) (fx' := [(12, 26, q0_, .ref a_1215), (14, 24, a0_, .int x_1201), (14, 22, a0_, .int x_1176), (12, 58, q0_, .int y_1123), (14, 6, a0_, .int x_18), (14, 10, a0_, .int x_8), (14, 2, a0_, .ref q0_), (14, 16, a0_, .int o_), (14, 25, a0_, .int op_)]) rfl (fun xr_1220 fr_1220 H locs mxr_1220 kxr_1220 hp hMr_1220 g => ?_) (fun fr_1220 H locs hp hMr_1220 g => ?_)
                                · have hG_1221 := isN.frame hMr_1220 go_.2.2.2.1 ma0_ ka0_ (by decide) (by decide) hG_1142
                                  have hG_1222 := cEq.frame hMr_1220 go_.2.2.2.1 ma0_ ka0_ (by decide) (by decide) hG_1143
                                  have hG_1223 := isV.frame hMr_1220 go_.2.2.2.1 mq0_ kq0_ (by decide) (by decide) hG_1144
                                  have hG_1224 := FR.frame hMr_1220 go_.2.2.2.1 mq0_ kq0_ (by decide) (by decide) hG_1145
                                  subst hQ
                                  exact leavesX hempty hlocks (fun t ht hW => g_thrZ g hK mxr_1220 kxr_1220 ⟨hG_1224, (by omega)⟩ ht hW) g.2.2.1.2.2
                                · exact hp.elim
                              · have fc_1217 := neq_f c_1217
                                have b_1225 : bd 1 1 x_1216 := neX fc_1217 bx_1216 kb_0 (by decide)
                                refine lv_iconst (v := 1) hx hb dX14_readName_251 (by decide) ?_
                                refine lv_goto (tgt := 256) hx hb dX14_readName_252 (by decide) ?_
                                refine lv_iconst (v := 5) hx hb dX14_readName_256 (by decide) ?_
                                refine lv_iload_n hx hb dX14_readName_257 rfl (lv_at hl 5 rfl) ?_
                                have hs_1226 := sE_1 g 4 rfl (by have h9_0 := bo_; unfold bd at h9_0; have h9_1 := bop_; unfold bd at h9_1; have h9_2 := h_1137; unfold bd at h9_2; have h9_3 := h_888; unfold bd at h9_3; have h9_4 := bso_; unfold bd at h9_4; have h9_5 := b_1111; unfold bd at h9_5; have h9_6 := b_1082; unfold bd at h9_6; have h9_7 := b_882; unfold bd at h9_7; have h9_8 := b_1092; unfold bd at h9_8; have h9_9 := b_1200; unfold bd at h9_9; have h9_10 := b_1214; unfold bd at h9_10; have h9_11 := b_1225; unfold bd at h9_11; have h9_12 := h_19; unfold bd at h9_12; have h9_13 := bx_2; unfold bd at h9_13; have h9_14 := h_9; unfold bd at h9_14; have h9_15 := b_1124; unfold bd at h9_15; have h8_0 := kb_0; unfold bd at h8_0; have h8_1 := kb_1; unfold bd at h8_1; have h8_2 := kb_1200; unfold bd at h8_2; have h8_3 := kb_2000; unfold bd at h8_3; have h8_4 := kb_m1; unfold bd at h8_4; omega)
                                have go_ := g
                                refine g_callEv (As := [.int 1, .int 5, .int x_2]) (rest := []) ⟨hx, hb, hml, hown, hts⟩ (r_X14_need_3 l dC dI L kd tys fr_1133 H.size g.2.2.2.1 a0_ ma0_ ka0_ 1 kb_1 5 x_2) (cwV 3 hts (gV_ t_2403 t_2405 t_100 t_198 t_2406) rfl rfl rfl (by decide +kernel) ⟨(show 0 + 1 ≤ N + 1 + 24 by omega), (show 8 + (4 + 11) + 0 ≤ 60 * (N + 1) + 700 by omega)⟩) (pre3V g hK ma0_ ka0_ (by decide) (q := (RX14, TX14, 67)) rfl) rfl hl.1 rfl (lv_room (Nat.le_of_ble_eq_true rfl)) dX14_readName_258 (cl_f hck_0) g hK (by decide) (by decide) (fx' := [(12, 26, q0_, .ref a_1215), (14, 24, a0_, .int x_1201), (14, 22, a0_, .int x_1176), (12, 58, q0_, .int y_1123), (14, 6, a0_, .int x_18), (14, 10, a0_, .int x_8), (14, 2, a0_, .ref q0_), (14, 16, a0_, .int o_), (14, 25, a0_, .int op_)]) rfl (fun xr_1227 fr_1227 H locs mxr_1227 kxr_1227 hp hMr_1227 g => ?_) (fun fr_1227 H locs hp hMr_1227 g => ?_)
                                · have hG_1228 := isN.frame hMr_1227 go_.2.2.2.1 ma0_ ka0_ (by decide) (by decide) hG_1142
                                  have hG_1229 := cEq.frame hMr_1227 go_.2.2.2.1 ma0_ ka0_ (by decide) (by decide) hG_1143
                                  have hG_1230 := isV.frame hMr_1227 go_.2.2.2.1 mq0_ kq0_ (by decide) (by decide) hG_1144
                                  have hG_1231 := FR.frame hMr_1227 go_.2.2.2.1 mq0_ kq0_ (by decide) (by decide) hG_1145
                                  exact hp.elim
                                · have hG_1232 := isN.frame hMr_1227 go_.2.2.2.1 ma0_ ka0_ (by decide) (by decide) hG_1142
                                  have hG_1233 := cEq.frame hMr_1227 go_.2.2.2.1 ma0_ ka0_ (by decide) (by decide) hG_1143
                                  have hG_1234 := isV.frame hMr_1227 go_.2.2.2.1 mq0_ kq0_ (by decide) (by decide) hG_1144
                                  have hG_1235 := FR.frame hMr_1227 go_.2.2.2.1 mq0_ kq0_ (by decide) (by decide) hG_1145
                                  have hl9 := lv_sub hl [0, 1, 2, 3, 4, 5, 6, 7, 8] (by rfl : lv_pick [(10, .int r_1133), (9, .int 1), (8, .int t_), (6, .long x_4), (4, .long x_3), (3, .int x_2), (0, .ref a0_), (1, .int x1_), (2, .int x2_)] [0, 1, 2, 3, 4, 5, 6, 7, 8] = [(10, .int r_1133), (9, .int 1), (8, .int t_), (6, .long x_4), (4, .long x_3), (3, .int x_2), (0, .ref a0_), (1, .int x1_), (2, .int x2_)])
                                  have g9 := g.sub (fx' := [(14, 22, a0_, .int x_1176), (12, 58, q0_, .int y_1123), (14, 6, a0_, .int x_18), (14, 10, a0_, .int x_8), (14, 2, a0_, .ref q0_), (14, 16, a0_, .int o_), (14, 25, a0_, .int op_)]) [2, 3, 4, 5, 6, 7, 8] rfl
                                  exact join_1147 x_1176 _ _ _ _ (bd_sub b_1200 (by decide)) g9 hG_1232 hG_1233 hG_1234 hG_1235 hl9
