set_option maxHeartbeats 4000000 in
set_option maxRecDepth 100000 in
theorem r_X14_readFrom (N : Nat) (ih : RecR N) (l : Launch) (dC : Nat → ClassId) (dI : Nat → Nat → Nat) (L : List Nat) (kd : Nat → Nat) (tys : List (ClassId × FieldType)) (f0 : Nat → va_E) (sz : Nat) (hWT : WT L kd tys f0) (adK adV : Nat → Nat) (a0_ : Nat) (ma0_ : a0_ ∈ L) (ka0_ : kd a0_ = 14) (x1_ : Int32) (bx1_ : bd 1 6 x1_) (q0_ : Nat) (mq0_ : q0_ ∈ L) (kq0_ : kd q0_ = 12) (V_ : PV) (o_ : Int32) (bo_ : bd 0 7 o_) (op_ : Int32) (bop_ : bd 0 40 op_) (t_ : Int32) (bt_ : bd 0 1201 t_) (hV : isV f0 q0_ V_) (hwf : wfN V_ (V_.n 57).toInt) (ho : (o_.toNatClampNeg : Int) < (V_.n 0).toInt) (hnn : (V_.n 57).toInt ≤ cF f0 a0_) (K_ : Nat) (hK_ : 1204 ≤ 2 * (K_ : Int) + cF f0 a0_) (hN : 11 * (40 - op_.toInt) + (11 - x1_.toInt) ≤ ((N + 1 : Nat) : Int)) (hfx : Fs L kd f0 [(14, 2, a0_, .ref q0_), (14, 16, a0_, .int o_), (14, 25, a0_, .int op_), (14, 10, a0_, .int t_)]) : MetX l yX14_readFrom (.code yX14_readFrom cX14_readFrom 7 (some .int) :: lw_g) ({ frames := (N + 1) + 24, cells := K_, slots := 3 * K_, locals := 60 * (N + 1) + 700 }) (va_Pc [.ref a0_, .int x1_] (P3A (dC, dI) L tys f0 sz adK adV)) (q3X (dC, dI) L kd tys [(12, 57), (12, 58), (14, 6), (14, 7), (14, 8), (14, 9), (14, 10), (14, 11), (14, 12), (14, 13), (14, 14), (14, 15), (14, 25)] [180, 201, 202, 203, 204, 205, 206, 207, 208, 209, 210] f0 sz (pXi (fun (r : Int32) (f : Nat → va_E) (k : Nat) => (rdP L kd f0 a0_ q0_ V_ o_ (12) 0 r f k (fun _ => True)) ∧ ∃ z1_ : Int32, bd 0 1201 z1_ ∧ Fs L kd f [(14, 25, a0_, .int op_), (14, 10, a0_, .int z1_)])) (fun k : Nat => 2 * (k : Int) + cF f0 a0_ ≤ 1203)) (pA L sz) := by
  refine MetX.ofW (cc := cX14_readFrom) (maxL := 7) (ret := (some .int)) (by decide) rfl ?_
  intro p e s m args below meth c s₁ B hml hempty hv
  obtain ⟨rfl, ⟨hsz, hP, hK, hD0⟩, hAm⟩ := hv
  have hx := B.exec
  have hb := B.bytes
  have hr := B.returns
  have hts := atoms_spec (ws := (.code yX14_readFrom cX14_readFrom 7 (some .int) :: lw_g)) B.pre
  have hown : s.vm.findClass RX14 = some m.cls := findClass_of_methodNamed B.named
  have hlocks := B.notSynchronized
  subst hsz
  have g : G3 (dC, dI) L kd tys s f0 [(12, 57), (12, 58), (14, 6), (14, 7), (14, 8), (14, 9), (14, 10), (14, 11), (14, 12), (14, 13), (14, 14), (14, 15), (14, 25)] [180, 201, 202, 203, 204, 205, 206, 207, 208, 209, 210] f0 s.heap [] [(14, 2, a0_, .ref q0_), (14, 16, a0_, .int o_), (14, 25, a0_, .int op_), (14, 10, a0_, .int t_)] := G3.start hP hD0 hWT hfx
  have hl := lv_entry ([.ref a0_, .int x1_]) (n := 7) (Nat.le_of_ble_eq_true rfl)
  rw [lg_entry_eq]
  generalize (lg_sl ([.ref a0_, .int x1_]) ++ List.replicate (7 - (lg_sl ([.ref a0_, .int x1_])).length) Slot.unset).toArray = ls at hl ⊢
  have hl : lv_has ls 7 [(0, .ref a0_), (1, .int x1_)] := hl
  refine W_q (fun Q hQ => ?_)
  refine W_c0 (fun cl_0 hc_0 => ?_)
  have hck_0 : cl_0 ≤ K_ := by omega
  have hC_0 : cEq f0 a0_ (cF f0 a0_) := rfl
  have hm_0 : cF f0 a0_ ≤ 1202 := cF_le g ma0_ ka0_
  have hm_1 : -1 ≤ cF f0 a0_ := cF_ge g ma0_ ka0_
  refine lv_iload_n hx hb dX14_readFrom_0 rfl (lv_at hl 1 rfl) ?_
  refine lv_bipush (v := 6) hx hb dX14_readFrom_1 (by decide) ?_
  have kb_6 : bd 6 6 (6 : Int32) := ⟨by decide, by decide⟩
  refine lv_icmp_ne (tgt := 11) hx hb dX14_readFrom_3 (by decide) (fun c_1 => ?_) (fun c_1 => ?_)
  · have fc_1 := neq_f c_1
    have b_2 : bd 1 5 x1_ := neX fc_1 bx1_ kb_6 (by decide)
    refine lv_aload_n hx hb dX14_readFrom_11 rfl (lv_at hl 0 rfl) ?_
    refine lv_iload_n hx hb dX14_readFrom_12 rfl (lv_at hl 1 rfl) ?_
    refine lv_iconst (v := 1) hx hb dX14_readFrom_13 (by decide) ?_
    have kb_1 : bd 1 1 (1 : Int32) := ⟨by decide, by decide⟩
    refine lv_iadd hx hb dX14_readFrom_14 ?_
    refine lv_topi (fun y_3 ey_3 => ?_)
    have ty_3 := add_bd ey_3 b_2 kb_1 (by decide)
    have b_4 : bd 2 6 y_3 := add_rg ty_3 b_2 kb_1 (by decide)
    have qc__5 : cF f0 a0_ = _ := hC_0
    have go_ := g
    refine g_callXi (As := [.int y_3]) (rest := []) ⟨hx, hb, hml, hown, hts⟩ (ih.1 l dC dI L kd tys f0 s.heap.size g.2.2.2.1 adK adV a0_ ma0_ ka0_ y_3 (bd_sub b_4 (by decide)) q0_ mq0_ kq0_ V_ o_ bo_ op_ bop_ t_ bt_ hV hwf ho (by omega) (K_ - cl_0) (by omega) (by have h9_0 := bo_; unfold bd at h9_0; have h9_1 := bop_; unfold bd at h9_1; have h9_2 := bt_; unfold bd at h9_2; have h9_3 := b_2; unfold bd at h9_3; have h9_4 := b_4; unfold bd at h9_4; have h8_0 := kb_1; unfold bd at h8_0; have h8_1 := kb_6; unfold bd at h8_1; omega) (g.fcts [0, 1, 2, 3] rfl)) (cwV 1 hts (gV_ t_2464 t_2466 t_113 t_198 t_2467) rfl rfl rfl (by decide +kernel) ⟨(show N + 24 + 1 ≤ N + 1 + 24 by omega), (show 8 + (7 + 11) + (60 * N + 700) ≤ 60 * (N + 1) + 700 by omega)⟩) (pre3VA g hK hAm ma0_ ka0_ (by decide) (q := (RX14, TX14, 67)) rfl) rfl hl.1 rfl (lv_room (Nat.le_of_ble_eq_true rfl)) dX14_readFrom_15 (cl_k (K := K_) (k := K_ - cl_0) (show cl_0 + (K_ - cl_0) ≤ K_ by omega)) g hK (by decide) (by decide) (fx' := [(14, 2, a0_, .ref q0_), (14, 16, a0_, .int o_)]) rfl (fun xr_6 fr_6 H locs kr_6 cr_6 ecr_6 mxr_6 kxr_6 hp hMr_6 g => ?_) (fun r_6 fr_6 H locs kr_6 cr_6 ecr_6 hp hMr_6 g => ?_)
    · subst hQ
      exact leavesX hempty hlocks (fun t ht hW => g_thrX g hK mxr_6 kxr_6 (by omega) ht hW) g.2.2.1.2.2
    · obtain ⟨hx_7, x_8, h_9, hF_10⟩ := hp
      obtain ⟨V_11, E_12, hV_13, hF_14, hE_15, hX_16, hw_17, hv_18, hP_19, hn_20, hk_21, hc_22⟩ := rd_use hx_7 hC_0
      have hF_23 := FR.call (mds := []) (mas := []) FR.refl go_ mq0_ kq0_ rfl hF_14
      have mxE_12 : E_12 ≤ 1202 := by have h9 := cF_le g ma0_ ka0_; have h8 : cF _ _ = _ := hE_15; omega
      have hx_24 := exN.tr exN.rf hX_16
      have hck_25 : cr_6 ≤ K_ := by omega
      have b_26 : bd 0 2499 r_6 := ⟨hv_18.1, (by have h9 := hv_18.2.1; omega)⟩
      have g := g.more hF_10
      refine lv_istore_n (lv' := [(2, .int r_6), (0, .ref a0_), (1, .int x1_)]) hx hb dX14_readFrom_18 rfl hl (by decide) rfl (fun ls hl => ?_)
      have loop_27 : ∀ (n : Nat) (v19_2 : Int32) (w19_14_10_a0_ : Int32), bd 0 2499 v19_2 → bd 0 1201 w19_14_10_a0_ → ((n : Int) - 1 < (n : Int)) → ∀ (f : Nat → va_E) (H : Heap) (locs : List Loc) (ls : Array Slot) (cl19 : Nat), G3 (dC, dI) L kd tys s f0 [(12, 57), (12, 58), (14, 6), (14, 7), (14, 8), (14, 9), (14, 10), (14, 11), (14, 12), (14, 13), (14, 14), (14, 15), (14, 25)] [180, 201, 202, 203, 204, 205, 206, 207, 208, 209, 210] f H locs [(14, 25, a0_, .int op_), (14, 10, a0_, .int w19_14_10_a0_), (14, 2, a0_, .ref q0_), (14, 16, a0_, .int o_)] → (∃ (V1 : PV) (E1 : Int), isV f q0_ V1 ∧ FR L kd f0 f q0_ ∧ cEq f a0_ E1 ∧ exN V_ V1 ∧ wfN V1 (V1.n 57).toInt ∧ EV V1 v19_2 12 o_.toNatClampNeg ∧ (V1.n 57).toInt - (V_.n 57).toInt ≤ E1 - cF f0 a0_ - 0 ∧ 2 * (cl19 : Int) ≤ E1 - cF f0 a0_ + 0 ∧ cF f0 a0_ + 1 ≤ E1 ∧ E1 ≤ 1202 ∧ cl19 ≤ K_ ∧ 1202 - E1 < (n : Int)) → lv_has ls 7 [(2, .int v19_2), (0, .ref a0_), (1, .int x1_)] → W p l e ({ frames := (N + 1) + 24, cells := K_, slots := 3 * K_, locals := 60 * (N + 1) + 700 } : Room) s m [.ref a0_, .int x1_].toArray below meth c H locs cl19 (3 * cl19) Q (F0 m 19 ls []) := by
        intro n19
        induction n19 with
        | zero =>
          intro v19_2 w19_14_10_a0_ bv19_2 bw19_14_10_a0_ hm19 f H locs ls cl19 g  ⟨V19, E19, hV19, hF19, hC19, hX19, hw19, he19, hn19, hk19, hc19, mx19, hck19, hms19⟩ hl
          exact absurd hms19 (by omega)
        | succ n19 ih19 =>
          intro v19_2 w19_14_10_a0_ bv19_2 bw19_14_10_a0_ hm19 f H locs ls cl19 g  ⟨V19, E19, hV19, hF19, hC19, hX19, hw19, he19, hn19, hk19, hc19, mx19, hck19, hms19⟩ hl
          refine lv_aload_n hx hb dX14_readFrom_19 rfl (lv_at hl 1 rfl) ?_
          have go_ := g
          refine g_calli (va_runV (As := []) (rest := []) ⟨hx, hb, hml, hown, hts⟩ (r_X14_strength_2 l dC dI L kd tys f H.size g.2.2.2.1 a0_ ma0_ ka0_) (cwV 0 hts (gV_ t_2520 t_2522 t_126 t_198 t_2523) rfl rfl rfl (by decide +kernel) ⟨(show 0 + 1 ≤ N + 1 + 24 by omega), (show 8 + (1 + 11) + 0 ≤ 60 * (N + 1) + 700 by omega)⟩) (pre3V g hK ma0_ ka0_ (by decide) (q := (RX14, TX14, 67)) rfl) rfl rfl hl.1 rfl (lv_room (Nat.le_of_ble_eq_true rfl)) dX14_readFrom_20 (cl_f hck19)) g hK (by decide) (by decide) (fx' := [(14, 25, a0_, .int op_), (14, 10, a0_, .int w19_14_10_a0_), (14, 2, a0_, .ref q0_), (14, 16, a0_, .int o_)]) rfl (fun r_28 fr_28 H locs hp hMr_28 g => ?_)
          rcases hp with ⟨h_29, -⟩ | ⟨h_30, x_31, h_32, x_33, h_34, hF_35⟩
          · have hG_36 := isV.frame hMr_28 go_.2.2.2.1 mq0_ kq0_ (by decide) (by decide) hV19
            have hG_37 := FR.frame hMr_28 go_.2.2.2.1 mq0_ kq0_ (by decide) (by decide) hF19
            have hG_38 := cEq.frame hMr_28 go_.2.2.2.1 ma0_ ka0_ (by decide) (by decide) hC19
            obtain rfl : r_28 = 0 := h_29
            refine lv_iload_n hx hb dX14_readFrom_23 rfl (lv_at hl 2 rfl) ?_
            have kb_0 : bd 0 0 (0 : Int32) := ⟨by decide, by decide⟩
            refine lv_icmp_ne (tgt := 137) hx hb dX14_readFrom_24 (by decide) (fun c_39 => ?_) (fun c_39 => ?_)
            · have fc_39 := neq_f c_39
              refine lv_iload_n hx hb dX14_readFrom_137 rfl (lv_at hl 0 rfl) ?_
              have h9c : cF fr_28 a0_ = _ := hG_38
              subst hQ
              exact iretX (v := v19_2) hx hb hr (fun t ht hW => g_retX g hK ⟨_, rfl, ⟨⟨_, hG_36, hG_37, hX19, hw19, he19, trivial, (by omega), (by omega), (by omega)⟩, w19_14_10_a0_, bw19_14_10_a0_, (g.fcts [0, 1] rfl)⟩⟩ ht hW) g.2.2.1.2.2 dX14_readFrom_138 hlocks
            · have fc_39 := eq_f c_39
              have b_40 : bd 1 0 (0 : Int32) := eqX fc_39 kb_0 b_2 (by decide)
              exact bd_no (eqX rfl b_40 kb_0 (lo := 1) (hi := 0) (by decide)) (by decide)
          · have hG_41 := isV.frame hMr_28 go_.2.2.2.1 mq0_ kq0_ (by decide) (by decide) hV19
            have hG_42 := FR.frame hMr_28 go_.2.2.2.1 mq0_ kq0_ (by decide) (by decide) hF19
            have hG_43 := cEq.frame hMr_28 go_.2.2.2.1 ma0_ ka0_ (by decide) (by decide) hC19
            have g := g.more hF_35
            refine lv_iload_n hx hb dX14_readFrom_23 rfl (lv_at hl 2 rfl) ?_
            refine lv_icmp_ne (tgt := 137) hx hb dX14_readFrom_24 (by decide) (fun c_44 => ?_) (fun c_44 => ?_)
            · have fc_44 := neq_f c_44
              refine lv_iload_n hx hb dX14_readFrom_137 rfl (lv_at hl 0 rfl) ?_
              have h9c : cF fr_28 a0_ = _ := hG_43
              subst hQ
              exact iretX (v := v19_2) hx hb hr (fun t ht hW => g_retX g hK ⟨_, rfl, ⟨⟨_, hG_41, hG_42, hX19, hw19, he19, trivial, (by omega), (by omega), (by omega)⟩, w19_14_10_a0_, bw19_14_10_a0_, (g.fcts [2, 3] rfl)⟩⟩ ht hW) g.2.2.1.2.2 dX14_readFrom_138 hlocks
            · have fc_44 := eq_f c_44
              refine lv_aload_n hx hb dX14_readFrom_27 rfl (lv_at hl 1 rfl) ?_
              have hs_45 := sE_1 g 1 rfl (by have h9_0 := bo_; unfold bd at h9_0; have h9_1 := bop_; unfold bd at h9_1; have h9_2 := h_30; unfold bd at h9_2; have h9_3 := b_26; unfold bd at h9_3; have h9_4 := bt_; unfold bd at h9_4; have h9_5 := bv19_2; unfold bd at h9_5; have h9_6 := bw19_14_10_a0_; unfold bd at h9_6; have h9_7 := b_2; unfold bd at h9_7; have h9_8 := h_32; unfold bd at h9_8; have h9_9 := h_34; unfold bd at h9_9; have h9_10 := h_9; unfold bd at h9_10; have h9_11 := b_4; unfold bd at h9_11; have h8_0 := kb_1; unfold bd at h8_0; have h8_1 := kb_6; unfold bd at h8_1; omega)
              have go_ := g
              refine g_callEv (As := []) (rest := []) ⟨hx, hb, hml, hown, hts⟩ (r_X14_counts_2 l dC dI L kd tys fr_28 H.size g.2.2.2.1 a0_ ma0_ ka0_ q0_ mq0_ kq0_ V19 hG_41 (g.fcts [4] rfl)) (cwV 0 hts (gV_ t_2476 t_2478 t_116 t_198 t_2479) rfl rfl rfl (by decide +kernel) ⟨(show 2 + 1 ≤ N + 1 + 24 by omega), (show 8 + (1 + 11) + 45 ≤ 60 * (N + 1) + 700 by omega)⟩) (pre3V g hK ma0_ ka0_ (by decide) (q := (RX14, TX14, 67)) rfl) rfl hl.1 rfl (lv_room (Nat.le_of_ble_eq_true rfl)) dX14_readFrom_28 (cl_f hck19) g hK (by decide) (by decide) (fx' := [(14, 7, a0_, .int x_31), (14, 6, a0_, .int x_33), (14, 25, a0_, .int op_), (14, 10, a0_, .int w19_14_10_a0_), (14, 2, a0_, .ref q0_), (14, 16, a0_, .int o_)]) rfl (fun xr_46 fr_46 H locs mxr_46 kxr_46 hp hMr_46 g => ?_) (fun fr_46 H locs hp hMr_46 g => ?_)
              · have hG_47 := cEq.frame hMr_46 go_.2.2.2.1 ma0_ ka0_ (by decide) (by decide) hG_43
                subst hQ
                exact leavesX hempty hlocks (fun t ht hW => g_thrX g hK mxr_46 kxr_46 (by omega) ht hW) g.2.2.1.2.2
              · obtain ⟨hx_48, hx_49, x_50, h_51, hF_52⟩ := hp
                have hG_53 := cEq.frame hMr_46 go_.2.2.2.1 ma0_ ka0_ (by decide) (by decide) hG_43
                have hF_54 := FR.call (mds := []) (mas := []) hG_42 go_ mq0_ kq0_ rfl hx_49
                have g := g.more hF_52
                refine lv_aload_n hx hb dX14_readFrom_31 rfl (lv_at hl 1 rfl) ?_
                refine g_getk (C := RX14) (T := TX14) (N := 67) hx hb hts (mc_ inX14) hown hK g rfl 7 (by decide) rfl (hts _ (List.mem_cons_of_mem _ t_2153)) (fun _ h9 => h9) 1 rfl dX14_readFrom_32 ?_
                refine lv_istore_n (lv' := [(3, .int x_31), (2, .int v19_2), (0, .ref a0_), (1, .int x1_)]) hx hb dX14_readFrom_35 rfl hl (by decide) rfl (fun ls hl => ?_)
                refine lv_aload_n hx hb dX14_readFrom_36 rfl (lv_at hl 2 rfl) ?_
                refine g_geti (C := RX14) (T := TX14) (N := 67) hx hb hts (mc_ inX14) hown hK g ma0_ ka0_ (by decide) rfl 8 (by decide) rfl (hts _ (List.mem_cons_of_mem _ t_2154)) (fun _ h9 => h9) rfl dX14_readFrom_37 (fun x_55 bx_55 g => ?_)
                refine lv_istore (lv' := [(4, .int x_55), (3, .int x_31), (2, .int v19_2), (0, .ref a0_), (1, .int x1_)]) hx hb dX14_readFrom_40 hl (by decide) rfl (fun ls hl => ?_)
                refine lv_aload_n hx hb dX14_readFrom_42 rfl (lv_at hl 3 rfl) ?_
                have hs_56 := sE_1 g 3 rfl (by have h9_0 := bo_; unfold bd at h9_0; have h9_1 := bop_; unfold bd at h9_1; have h9_2 := h_30; unfold bd at h9_2; have h9_3 := b_26; unfold bd at h9_3; have h9_4 := bt_; unfold bd at h9_4; have h9_5 := bv19_2; unfold bd at h9_5; have h9_6 := bw19_14_10_a0_; unfold bd at h9_6; have h9_7 := b_2; unfold bd at h9_7; have h9_8 := h_32; unfold bd at h9_8; have h9_9 := h_34; unfold bd at h9_9; have h9_10 := h_51; unfold bd at h9_10; have h9_11 := bx_55; unfold bd at h9_11; have h9_12 := h_9; unfold bd at h9_12; have h9_13 := b_4; unfold bd at h9_13; have h8_0 := kb_1; unfold bd at h8_0; have h8_1 := kb_6; unfold bd at h8_1; omega)
                have go_ := g
                refine g_callEv (As := []) (rest := []) ⟨hx, hb, hml, hown, hts⟩ (r_X14_next_2 l dC dI L kd tys fr_46 H.size g.2.2.2.1 adK adV a0_ ma0_ ka0_ w19_14_10_a0_ bw19_14_10_a0_ (g.fcts [5] rfl)) (cwV 0 hts (gV_ t_2411 t_2413 t_102 t_198 t_2414) rfl rfl rfl (by decide +kernel) ⟨(show 6 + 1 ≤ N + 1 + 24 by omega), (show 8 + (1 + 11) + 135 ≤ 60 * (N + 1) + 700 by omega)⟩) (pre3VA g hK hAm ma0_ ka0_ (by decide) (q := (RX14, TX14, 67)) rfl) rfl hl.1 rfl (lv_room (Nat.le_of_ble_eq_true rfl)) dX14_readFrom_43 (cl_f hck19) g hK (by decide) (by decide) (fx' := [(12, 58, q0_, .int x_50), (14, 25, a0_, .int op_), (14, 2, a0_, .ref q0_), (14, 16, a0_, .int o_)]) rfl (fun xr_57 fr_57 H locs mxr_57 kxr_57 hp hMr_57 g => ?_) (fun fr_57 H locs hp hMr_57 g => ?_)
                · have hG_58 := FR.frame hMr_57 go_.2.2.2.1 mq0_ kq0_ (by decide) (by decide) hF_54
                  have hG_59 := isV.frame hMr_57 go_.2.2.2.1 mq0_ kq0_ (by decide) (by decide) hx_48
                  subst hQ
                  exact leavesX hempty hlocks (fun t ht hW => g_thrX g hK mxr_57 kxr_57 (by omega) ht hW) g.2.2.1.2.2
                · obtain ⟨hx_60, h_61, x_62, h_63, hF_64⟩ := hp
                  have hG_65 := FR.frame hMr_57 go_.2.2.2.1 mq0_ kq0_ (by decide) (by decide) hF_54
                  have hG_66 := isV.frame hMr_57 go_.2.2.2.1 mq0_ kq0_ (by decide) (by decide) hx_48
                  obtain ⟨E_67, hE_67⟩ : ∃ E : Int, cEq fr_57 a0_ E := ⟨_, rfl⟩
                  have mxE_67 : E_67 ≤ 1202 := by have h9 := cF_le g ma0_ ka0_; have h8 : cF _ _ = _ := hE_67; omega
                  have lE_67 : E19 + 1 ≤ E_67 := by have h9 := hx_60; have h8 : cF _ _ = _ := hE_67; have h7 : cF _ _ = _ := hG_53; have h6 := hs_56; have h5 := tk_c (f := fr_46) (t := a0_); omega
                  have b_68 : bd 0 1200 w19_14_10_a0_ := eqX rfl bw19_14_10_a0_ h_61 (by decide)
                  have g := g.more hF_64
                  refine lv_aload_n hx hb dX14_readFrom_46 rfl (lv_at hl 3 rfl) ?_
                  refine lv_iload_n hx hb dX14_readFrom_47 rfl (lv_at hl 4 rfl) ?_
                  refine lv_iconst (v := 1) hx hb dX14_readFrom_48 (by decide) ?_
                  refine lv_iadd hx hb dX14_readFrom_49 ?_
                  refine lv_topi (fun y_69 ey_69 => ?_)
                  obtain rfl : y_3 = y_69 := ey_3.trans ey_69.symm
                  have qc__70 : cF fr_57 a0_ = _ := hE_67
                  have go_ := g
                  refine g_callXi (As := [.int y_3]) (rest := []) ⟨hx, hb, hml, hown, hts⟩ (ih.1 l dC dI L kd tys fr_57 H.size g.2.2.2.1 adK adV a0_ ma0_ ka0_ y_3 (bd_sub b_4 (by decide)) q0_ mq0_ kq0_ V19 o_ bo_ op_ bop_ x_62 h_63 hG_66 hw19 (by rw [hX19.2.2.1 0 (by decide)]; exact ho) (by omega) (K_ - cl19) (by omega) (by have h9_0 := bo_; unfold bd at h9_0; have h9_1 := bop_; unfold bd at h9_1; have h9_2 := h_30; unfold bd at h9_2; have h9_3 := b_26; unfold bd at h9_3; have h9_4 := bt_; unfold bd at h9_4; have h9_5 := bv19_2; unfold bd at h9_5; have h9_6 := b_68; unfold bd at h9_6; have h9_7 := b_2; unfold bd at h9_7; have h9_8 := h_32; unfold bd at h9_8; have h9_9 := h_34; unfold bd at h9_9; have h9_10 := h_51; unfold bd at h9_10; have h9_11 := bx_55; unfold bd at h9_11; have h9_12 := h_63; unfold bd at h9_12; have h9_13 := h_9; unfold bd at h9_13; have h9_14 := b_4; unfold bd at h9_14; have h8_0 := kb_1; unfold bd at h8_0; have h8_1 := kb_6; unfold bd at h8_1; omega) (g.fcts [3, 4, 2, 0] rfl)) (cwV 1 hts (gV_ t_2464 t_2466 t_113 t_198 t_2467) rfl rfl rfl (by decide +kernel) ⟨(show N + 24 + 1 ≤ N + 1 + 24 by omega), (show 8 + (7 + 11) + (60 * N + 700) ≤ 60 * (N + 1) + 700 by omega)⟩) (pre3VA g hK hAm ma0_ ka0_ (by decide) (q := (RX14, TX14, 67)) rfl) rfl hl.1 rfl (lv_room (Nat.le_of_ble_eq_true rfl)) dX14_readFrom_50 (cl_k (K := K_) (k := K_ - cl19) (show cl19 + (K_ - cl19) ≤ K_ by omega)) g hK (by decide) (by decide) (fx' := [(14, 2, a0_, .ref q0_), (14, 16, a0_, .int o_)]) rfl (fun xr_71 fr_71 H locs kr_71 cr_71 ecr_71 mxr_71 kxr_71 hp hMr_71 g => ?_) (fun r_71 fr_71 H locs kr_71 cr_71 ecr_71 hp hMr_71 g => ?_)
                  · subst hQ
                    exact leavesX hempty hlocks (fun t ht hW => g_thrX g hK mxr_71 kxr_71 (by omega) ht hW) g.2.2.1.2.2
                  · obtain ⟨hx_72, x_73, h_74, hF_75⟩ := hp
                    obtain ⟨V_76, E_77, hV_78, hF_79, hE_80, hX_81, hw_82, hv_83, hP_84, hn_85, hk_86, hc_87⟩ := rd_use hx_72 hE_67
                    have hF_88 := FR.call (mds := []) (mas := []) hG_65 go_ mq0_ kq0_ rfl hF_79
                    have mxE_77 : E_77 ≤ 1202 := by have h9 := cF_le g ma0_ ka0_; have h8 : cF _ _ = _ := hE_80; omega
                    have hx_89 := exN.tr hX19 hX_81
                    have he_90 := exN.ev hX_81 he19
                    have hck_91 : cr_71 ≤ K_ := by omega
                    have b_92 : bd 0 2499 r_71 := ⟨hv_83.1, (by have h9 := hv_83.2.1; omega)⟩
                    have g := g.more hF_75
                    refine lv_istore (lv' := [(5, .int r_71), (4, .int x_55), (3, .int x_31), (2, .int v19_2), (0, .ref a0_), (1, .int x1_)]) hx hb dX14_readFrom_53 hl (by decide) rfl (fun ls hl => ?_)
                    refine lv_iconst (v := 1) hx hb dX14_readFrom_55 (by decide) ?_
                    refine lv_aload_n hx hb dX14_readFrom_56 rfl (lv_at hl 4 rfl) ?_
                    refine g_getk (C := RX14) (T := TX14) (N := 67) hx hb hts (mc_ inX14) hown hK g rfl 2 (by decide) rfl (hts _ (List.mem_cons_of_mem _ t_2148)) (fun _ h9 => h9) 2 rfl dX14_readFrom_57 ?_
                    refine g_getr (K := 205) (C := RX12) (T := TX12) (N := 60) hx hb hts (mc_ inX12) hown hK g mq0_ kq0_ (by decide) rfl 51 (by decide) rfl (hts _ (List.mem_cons_of_mem _ t_2006)) (fun _ h9 => h9) rfl dX14_readFrom_60 (fun a_93 ma_93 ka_93 g => ?_)
                    refine lv_iload_n hx hb dX14_readFrom_63 rfl (lv_at hl 3 rfl) ?_
                    refine g_iald hx hb hK g ma_93 ka_93 (by decide) rfl (in_bd bv19_2 (by decide)) dX14_readFrom_64 (fun x_94 bx_94 cx_94 => ?_)
                    have vx_94 : x_94 = V_76.i 51 v19_2.toNatClampNeg := hV_78.at g 0 rfl rfl cx_94
                    have b_95 : bd 1 12 x_94 := ev_hb hw_82 he_90 vx_94
                    refine lv_aload_n hx hb dX14_readFrom_65 rfl (lv_at hl 4 rfl) ?_
                    refine g_getk (C := RX14) (T := TX14) (N := 67) hx hb hts (mc_ inX14) hown hK g rfl 2 (by decide) rfl (hts _ (List.mem_cons_of_mem _ t_2148)) (fun _ h9 => h9) 3 rfl dX14_readFrom_66 ?_
                    refine g_getk (C := RX12) (T := TX12) (N := 60) hx hb hts (mc_ inX12) hown hK g rfl 51 (by decide) rfl (hts _ (List.mem_cons_of_mem _ t_2006)) (fun _ h9 => h9) 0 rfl dX14_readFrom_69 ?_
                    refine lv_iload hx hb dX14_readFrom_72 (lv_at hl 0 rfl) ?_
                    refine g_iald hx hb hK g ma_93 ka_93 (by decide) rfl (in_bd b_92 (by decide)) dX14_readFrom_74 (fun x_96 bx_96 cx_96 => ?_)
                    have vx_96 : x_96 = V_76.i 51 r_71.toNatClampNeg := hV_78.at g 0 rfl rfl cx_96
                    have b_97 : bd 1 12 x_96 := ev_hb hw_82 hv_83 vx_96
                    refine lv_icmp_le (tgt := 90) hx hb dX14_readFrom_75 (by decide) (fun c_98 => ?_) (fun c_98 => ?_)
                    · have fc_98 := le_f c_98
                      refine lv_aload_n hx hb dX14_readFrom_90 rfl (lv_at hl 4 rfl) ?_
                      refine g_getk (C := RX14) (T := TX14) (N := 67) hx hb hts (mc_ inX14) hown hK g rfl 2 (by decide) rfl (hts _ (List.mem_cons_of_mem _ t_2148)) (fun _ h9 => h9) 3 rfl dX14_readFrom_91 ?_
                      refine g_getk (C := RX12) (T := TX12) (N := 60) hx hb hts (mc_ inX12) hown hK g rfl 51 (by decide) rfl (hts _ (List.mem_cons_of_mem _ t_2006)) (fun _ h9 => h9) 0 rfl dX14_readFrom_94 ?_
                      refine lv_iload hx hb dX14_readFrom_97 (lv_at hl 0 rfl) ?_
                      refine g_iald hx hb hK g ma_93 ka_93 (by decide) rfl (in_bd b_92 (by decide)) dX14_readFrom_99 (fun x_99 bx_99 cx_99 => ?_)
                      obtain rfl : x_96 = x_99 := el_same cx_96 cx_99 rfl
                      refine lv_iadd hx hb dX14_readFrom_100 ?_
                      refine lv_topi (fun y_100 ey_100 => ?_)
                      have ty_100 := add_bd ey_100 kb_1 b_97 (by decide)
                      have b_101 : bd 2 13 y_100 := add_rg ty_100 kb_1 b_97 (by decide)
                      refine lv_istore (lv' := [(6, .int y_100), (5, .int r_71), (4, .int x_55), (3, .int x_31), (2, .int v19_2), (0, .ref a0_), (1, .int x1_)]) hx hb dX14_readFrom_101 hl (by decide) rfl (fun ls hl => ?_)
                      refine lv_aload_n hx hb dX14_readFrom_103 rfl (lv_at hl 5 rfl) ?_
                      refine lv_iload hx hb dX14_readFrom_104 (lv_at hl 0 rfl) ?_
                      refine lv_bipush (v := 12) hx hb dX14_readFrom_106 (by decide) ?_
                      have kb_12 : bd 12 12 (12 : Int32) := ⟨by decide, by decide⟩
                      refine lv_icmp_gt (tgt := 115) hx hb dX14_readFrom_108 (by decide) (fun c_102 => ?_) (fun c_102 => ?_)
                      · have fc_102 := lt_f c_102
                        have b_103 : bd 13 13 y_100 := ltR fc_102 kb_12 b_101 (by decide)
                        refine lv_iconst (v := 0) hx hb dX14_readFrom_115 (by decide) ?_
                        refine lv_bipush (v := 7) hx hb dX14_readFrom_116 (by decide) ?_
                        refine lv_iload hx hb dX14_readFrom_118 (lv_at hl 2 rfl) ?_
                        have kb_0 : bd 0 0 (0 : Int32) := ⟨by decide, by decide⟩
                        have go_ := g
                        refine g_callEv (As := [.int 0, .int 7, .int x_55]) (rest := []) ⟨hx, hb, hml, hown, hts⟩ (r_X14_need_2 l dC dI L kd tys fr_71 H.size g.2.2.2.1 a0_ ma0_ ka0_ 0 kb_0 7 x_55) (cwV 3 hts (gV_ t_2403 t_2405 t_100 t_198 t_2406) rfl rfl rfl (by decide +kernel) ⟨(show 1 + 1 ≤ N + 1 + 24 by omega), (show 8 + (4 + 11) + 22 ≤ 60 * (N + 1) + 700 by omega)⟩) (pre3V g hK ma0_ ka0_ (by decide) (q := (RX14, TX14, 67)) rfl) rfl hl.1 rfl (lv_room (Nat.le_of_ble_eq_true rfl)) dX14_readFrom_120 (cl_f hck_91) g hK (by decide) (by decide) (fx' := [(12, 51, q0_, .ref a_93), (14, 25, a0_, .int op_), (14, 10, a0_, .int x_73), (14, 2, a0_, .ref q0_), (14, 16, a0_, .int o_)]) rfl (fun xr_104 fr_104 H locs mxr_104 kxr_104 hp hMr_104 g => ?_) (fun fr_104 H locs hp hMr_104 g => ?_)
                        · have hG_105 := isV.frame hMr_104 go_.2.2.2.1 mq0_ kq0_ (by decide) (by decide) hV_78
                          have hG_106 := FR.frame hMr_104 go_.2.2.2.1 mq0_ kq0_ (by decide) (by decide) hF_88
                          have hG_107 := cEq.frame hMr_104 go_.2.2.2.1 ma0_ ka0_ (by decide) (by decide) hE_80
                          subst hQ
                          exact leavesX hempty hlocks (fun t ht hW => g_thrX g hK mxr_104 kxr_104 (by omega) ht hW) g.2.2.1.2.2
                        · exact hp.elim
                      · have fc_102 := nlt_f c_102
                        have b_108 : bd 2 12 y_100 := leL fc_102 b_101 kb_12 (by decide)
                        refine lv_iconst (v := 1) hx hb dX14_readFrom_111 (by decide) ?_
                        refine lv_goto (tgt := 116) hx hb dX14_readFrom_112 (by decide) ?_
                        refine lv_bipush (v := 7) hx hb dX14_readFrom_116 (by decide) ?_
                        refine lv_iload hx hb dX14_readFrom_118 (lv_at hl 2 rfl) ?_
                        have go_ := g
                        refine g_callEv (As := [.int 1, .int 7, .int x_55]) (rest := []) ⟨hx, hb, hml, hown, hts⟩ (r_X14_need_3 l dC dI L kd tys fr_71 H.size g.2.2.2.1 a0_ ma0_ ka0_ 1 kb_1 7 x_55) (cwV 3 hts (gV_ t_2403 t_2405 t_100 t_198 t_2406) rfl rfl rfl (by decide +kernel) ⟨(show 0 + 1 ≤ N + 1 + 24 by omega), (show 8 + (4 + 11) + 0 ≤ 60 * (N + 1) + 700 by omega)⟩) (pre3V g hK ma0_ ka0_ (by decide) (q := (RX14, TX14, 67)) rfl) rfl hl.1 rfl (lv_room (Nat.le_of_ble_eq_true rfl)) dX14_readFrom_120 (cl_f hck_91) g hK (by decide) (by decide) (fx' := [(12, 51, q0_, .ref a_93), (14, 25, a0_, .int op_), (14, 10, a0_, .int x_73), (14, 2, a0_, .ref q0_), (14, 16, a0_, .int o_)]) rfl (fun xr_109 fr_109 H locs mxr_109 kxr_109 hp hMr_109 g => ?_) (fun fr_109 H locs hp hMr_109 g => ?_)
                        · have hG_110 := isV.frame hMr_109 go_.2.2.2.1 mq0_ kq0_ (by decide) (by decide) hV_78
                          have hG_111 := FR.frame hMr_109 go_.2.2.2.1 mq0_ kq0_ (by decide) (by decide) hF_88
                          have hG_112 := cEq.frame hMr_109 go_.2.2.2.1 ma0_ ka0_ (by decide) (by decide) hE_80
                          exact hp.elim
                        · have hG_113 := isV.frame hMr_109 go_.2.2.2.1 mq0_ kq0_ (by decide) (by decide) hV_78
                          have hG_114 := FR.frame hMr_109 go_.2.2.2.1 mq0_ kq0_ (by decide) (by decide) hF_88
                          have hG_115 := cEq.frame hMr_109 go_.2.2.2.1 ma0_ ka0_ (by decide) (by decide) hE_80
                          refine lv_aload_n hx hb dX14_readFrom_123 rfl (lv_at hl 5 rfl) ?_
                          refine lv_iload_n hx hb dX14_readFrom_124 rfl (lv_at hl 3 rfl) ?_
                          refine lv_iload_n hx hb dX14_readFrom_125 rfl (lv_at hl 4 rfl) ?_
                          refine lv_iload hx hb dX14_readFrom_126 (lv_at hl 1 rfl) ?_
                          refine lv_iload hx hb dX14_readFrom_128 (lv_at hl 0 rfl) ?_
                          have hnb : (V_76.n 57).toInt ≤ 2499 := by omega
                          have go_ := g
                          refine g_calli (va_runV (As := [.int x_31, .int v19_2, .int r_71, .int y_100]) (rest := []) ⟨hx, hb, hml, hown, hts⟩ (r_X14_node l dC dI L kd tys fr_109 H.size g.2.2.2.1 a0_ ma0_ ka0_ x_31 v19_2 r_71 y_100 q0_ mq0_ kq0_ o_ bo_ V_76 hG_113 hnb (g.fcts [3, 4] rfl)) (cwV 4 hts (gV_ t_2480 t_2482 t_117 t_198 t_2483) rfl rfl rfl (by decide +kernel) ⟨(show 0 + 1 ≤ N + 1 + 24 by omega), (show 8 + (6 + 11) + 0 ≤ 60 * (N + 1) + 700 by omega)⟩) (pre3V g hK ma0_ ka0_ (by decide) (q := (RX14, TX14, 67)) rfl) rfl rfl hl.1 rfl (lv_room (Nat.le_of_ble_eq_true rfl)) dX14_readFrom_130 (cl_f hck_91)) g hK (by decide) (by decide) (fx' := [(12, 51, q0_, .ref a_93), (14, 25, a0_, .int op_), (14, 10, a0_, .int x_73), (14, 2, a0_, .ref q0_), (14, 16, a0_, .int o_)]) rfl (fun r_116 fr_116 H locs hp hMr_116 g => ?_)
                          obtain ⟨hx_117, hx_118, h_119, x_120, h_121, hF_122⟩ := hp
                          have hG_123 := cEq.frame hMr_116 go_.2.2.2.1 ma0_ ka0_ (by decide) (by decide) hG_115
                          have hF_124 := FR.call (mds := []) (mas := []) hG_114 go_ mq0_ kq0_ rfl hx_118
                          obtain ⟨V_125, hV_126, hN_127⟩ := hx_117
                          have g := g.more hF_122
                          refine lv_istore_n (lv' := [(2, .int r_116), (6, .int y_100), (5, .int r_71), (4, .int x_55), (3, .int x_31), (0, .ref a0_), (1, .int x1_)]) hx hb dX14_readFrom_133 rfl hl (by decide) rfl (fun ls hl => ?_)
                          refine lv_goto (tgt := 19) hx hb dX14_readFrom_134 (by decide) ?_
                          have hl9 := lv_sub hl [0, 5, 6] (by rfl : lv_pick [(2, .int r_116), (6, .int y_100), (5, .int r_71), (4, .int x_55), (3, .int x_31), (0, .ref a0_), (1, .int x1_)] [0, 5, 6] = [(2, .int r_116), (0, .ref a0_), (1, .int x1_)])
                          have g9 := g.sub (fx' := [(14, 25, a0_, .int op_), (14, 10, a0_, .int x_73), (14, 2, a0_, .ref q0_), (14, 16, a0_, .int o_)]) [2, 3, 4, 5] rfl
                          have hf_128 : fin V_76 V_125 r_116 12 o_ := nd_bin hN_127 h_119.1 hw_82 ⟨(by have h9_0 := bo_; unfold bd at h9_0; have h9_1 := bop_; unfold bd at h9_1; have h9_2 := h_119; unfold bd at h9_2; have h9_3 := h_30; unfold bd at h9_3; have h9_4 := b_26; unfold bd at h9_4; have h9_5 := b_92; unfold bd at h9_5; have h9_6 := bt_; unfold bd at h9_6; have h9_7 := bv19_2; unfold bd at h9_7; have h9_8 := b_68; unfold bd at h9_8; have h9_9 := b_2; unfold bd at h9_9; have h9_10 := h_121; unfold bd at h9_10; have h9_11 := h_32; unfold bd at h9_11; have h9_12 := h_34; unfold bd at h9_12; have h9_13 := h_51; unfold bd at h9_13; have h9_14 := bx_55; unfold bd at h9_14; have h9_15 := h_63; unfold bd at h9_15; have h9_16 := h_74; unfold bd at h9_16; have h9_17 := h_9; unfold bd at h9_17; have h9_18 := b_95; unfold bd at h9_18; have h9_19 := b_97; unfold bd at h9_19; have h9_20 := b_108; unfold bd at h9_20; have h9_21 := b_4; unfold bd at h9_21; have h8_0 := kb_1; unfold bd at h8_0; have h8_1 := kb_12; unfold bd at h8_1; have h8_2 := kb_6; unfold bd at h8_2; omega), (by have h9_0 := bo_; unfold bd at h9_0; have h9_1 := bop_; unfold bd at h9_1; have h9_2 := h_119; unfold bd at h9_2; have h9_3 := h_30; unfold bd at h9_3; have h9_4 := b_26; unfold bd at h9_4; have h9_5 := b_92; unfold bd at h9_5; have h9_6 := bt_; unfold bd at h9_6; have h9_7 := bv19_2; unfold bd at h9_7; have h9_8 := b_68; unfold bd at h9_8; have h9_9 := b_2; unfold bd at h9_9; have h9_10 := h_121; unfold bd at h9_10; have h9_11 := h_32; unfold bd at h9_11; have h9_12 := h_34; unfold bd at h9_12; have h9_13 := h_51; unfold bd at h9_13; have h9_14 := bx_55; unfold bd at h9_14; have h9_15 := h_63; unfold bd at h9_15; have h9_16 := h_74; unfold bd at h9_16; have h9_17 := h_9; unfold bd at h9_17; have h9_18 := b_95; unfold bd at h9_18; have h9_19 := b_97; unfold bd at h9_19; have h9_20 := b_108; unfold bd at h9_20; have h9_21 := b_4; unfold bd at h9_21; have h8_0 := kb_1; unfold bd at h8_0; have h8_1 := kb_12; unfold bd at h8_1; have h8_2 := kb_6; unfold bd at h8_2; omega)⟩ (by have h9_0 := bo_; unfold bd at h9_0; have h9_1 := bop_; unfold bd at h9_1; have h9_2 := h_119; unfold bd at h9_2; have h9_3 := h_30; unfold bd at h9_3; have h9_4 := b_26; unfold bd at h9_4; have h9_5 := b_92; unfold bd at h9_5; have h9_6 := bt_; unfold bd at h9_6; have h9_7 := bv19_2; unfold bd at h9_7; have h9_8 := b_68; unfold bd at h9_8; have h9_9 := b_2; unfold bd at h9_9; have h9_10 := h_121; unfold bd at h9_10; have h9_11 := h_32; unfold bd at h9_11; have h9_12 := h_34; unfold bd at h9_12; have h9_13 := h_51; unfold bd at h9_13; have h9_14 := bx_55; unfold bd at h9_14; have h9_15 := h_63; unfold bd at h9_15; have h9_16 := h_74; unfold bd at h9_16; have h9_17 := h_9; unfold bd at h9_17; have h9_18 := b_95; unfold bd at h9_18; have h9_19 := b_97; unfold bd at h9_19; have h9_20 := b_108; unfold bd at h9_20; have h9_21 := b_4; unfold bd at h9_21; have h8_0 := kb_1; unfold bd at h8_0; have h8_1 := kb_12; unfold bd at h8_1; have h8_2 := kb_6; unfold bd at h8_2; omega) (by rw [hx_89.2.2.1 0 (by decide)]; exact ho) (by have h9_0 := bo_; unfold bd at h9_0; have h9_1 := bop_; unfold bd at h9_1; have h9_2 := h_119; unfold bd at h9_2; have h9_3 := h_30; unfold bd at h9_3; have h9_4 := b_26; unfold bd at h9_4; have h9_5 := b_92; unfold bd at h9_5; have h9_6 := bt_; unfold bd at h9_6; have h9_7 := bv19_2; unfold bd at h9_7; have h9_8 := b_68; unfold bd at h9_8; have h9_9 := b_2; unfold bd at h9_9; have h9_10 := h_121; unfold bd at h9_10; have h9_11 := h_32; unfold bd at h9_11; have h9_12 := h_34; unfold bd at h9_12; have h9_13 := h_51; unfold bd at h9_13; have h9_14 := bx_55; unfold bd at h9_14; have h9_15 := h_63; unfold bd at h9_15; have h9_16 := h_74; unfold bd at h9_16; have h9_17 := h_9; unfold bd at h9_17; have h9_18 := b_95; unfold bd at h9_18; have h9_19 := b_97; unfold bd at h9_19; have h9_20 := b_108; unfold bd at h9_20; have h9_21 := b_4; unfold bd at h9_21; have h8_0 := kb_1; unfold bd at h8_0; have h8_1 := kb_12; unfold bd at h8_1; have h8_2 := kb_6; unfold bd at h8_2; omega) (EV.at_ he_90 vx_94) (by have h9_0 := bo_; unfold bd at h9_0; have h9_1 := bop_; unfold bd at h9_1; have h9_2 := h_119; unfold bd at h9_2; have h9_3 := h_30; unfold bd at h9_3; have h9_4 := b_26; unfold bd at h9_4; have h9_5 := b_92; unfold bd at h9_5; have h9_6 := bt_; unfold bd at h9_6; have h9_7 := bv19_2; unfold bd at h9_7; have h9_8 := b_68; unfold bd at h9_8; have h9_9 := b_2; unfold bd at h9_9; have h9_10 := h_121; unfold bd at h9_10; have h9_11 := h_32; unfold bd at h9_11; have h9_12 := h_34; unfold bd at h9_12; have h9_13 := h_51; unfold bd at h9_13; have h9_14 := bx_55; unfold bd at h9_14; have h9_15 := h_63; unfold bd at h9_15; have h9_16 := h_74; unfold bd at h9_16; have h9_17 := h_9; unfold bd at h9_17; have h9_18 := b_95; unfold bd at h9_18; have h9_19 := b_97; unfold bd at h9_19; have h9_20 := b_108; unfold bd at h9_20; have h9_21 := b_4; unfold bd at h9_21; have h8_0 := kb_1; unfold bd at h8_0; have h8_1 := kb_12; unfold bd at h8_1; have h8_2 := kb_6; unfold bd at h8_2; omega) (EV.at_ hv_83 vx_96) (by have h9_0 := bo_; unfold bd at h9_0; have h9_1 := bop_; unfold bd at h9_1; have h9_2 := h_119; unfold bd at h9_2; have h9_3 := h_30; unfold bd at h9_3; have h9_4 := b_26; unfold bd at h9_4; have h9_5 := b_92; unfold bd at h9_5; have h9_6 := bt_; unfold bd at h9_6; have h9_7 := bv19_2; unfold bd at h9_7; have h9_8 := b_68; unfold bd at h9_8; have h9_9 := b_2; unfold bd at h9_9; have h9_10 := h_121; unfold bd at h9_10; have h9_11 := h_32; unfold bd at h9_11; have h9_12 := h_34; unfold bd at h9_12; have h9_13 := h_51; unfold bd at h9_13; have h9_14 := bx_55; unfold bd at h9_14; have h9_15 := h_63; unfold bd at h9_15; have h9_16 := h_74; unfold bd at h9_16; have h9_17 := h_9; unfold bd at h9_17; have h9_18 := b_95; unfold bd at h9_18; have h9_19 := b_97; unfold bd at h9_19; have h9_20 := b_108; unfold bd at h9_20; have h9_21 := b_4; unfold bd at h9_21; have h8_0 := kb_1; unfold bd at h8_0; have h8_1 := kb_12; unfold bd at h8_1; have h8_2 := kb_6; unfold bd at h8_2; omega)
                          have ho_132 : (V_125.i 47 r_116.toNatClampNeg).toInt = x_31.toInt := (congrArg Int32.toInt (hN_127).2.2.2.1)
                          obtain ⟨V_129, hV_130, hf_131, ho_132⟩ : ∃ V1 : PV, isV fr_116 q0_ V1 ∧ fin V_76 V1 r_116 12 o_ ∧ (V1.i 47 r_116.toNatClampNeg).toInt = x_31.toInt := ⟨_, hV_126, hf_128, ho_132⟩
                          have hf_131n := hf_131.2.2.2
                          have hx_133 := exN.tr hx_89 hf_131.1
                          have he_134 := exN.ev hf_131.1 he_90
                          have he_135 := exN.ev hf_131.1 hv_83
                          exact ih19  r_116 x_73 h_119 h_74 (by have h9_0 := bv19_2; unfold bd at h9_0; have h9_1 := bw19_14_10_a0_; unfold bd at h9_1; have h9_2 := h_119; unfold bd at h9_2; have h9_3 := h_74; unfold bd at h9_3; have h9_4 := kb_1; unfold bd at h9_4; have h9_5 := kb_12; unfold bd at h9_5; have h9_6 := kb_6; unfold bd at h9_6; omega) _ _ _ _ _ g9 ⟨_, _, hV_130, hF_124, hG_123, hx_133, hf_131.2.1, hf_131.2.2.1, (by omega), (by omega), (by omega), (by omega), hck_91, (by omega)⟩ hl9
                    · have fc_98 := nle_f c_98
                      have b_136 : bd 1 11 x_96 := ltL fc_98 b_97 b_95 (by decide)
                      have b_137 : bd 2 12 x_94 := ltR fc_98 b_97 b_95 (by decide)
                      refine lv_aload_n hx hb dX14_readFrom_78 rfl (lv_at hl 4 rfl) ?_
                      refine g_getk (C := RX14) (T := TX14) (N := 67) hx hb hts (mc_ inX14) hown hK g rfl 2 (by decide) rfl (hts _ (List.mem_cons_of_mem _ t_2148)) (fun _ h9 => h9) 3 rfl dX14_readFrom_79 ?_
                      refine g_getk (C := RX12) (T := TX12) (N := 60) hx hb hts (mc_ inX12) hown hK g rfl 51 (by decide) rfl (hts _ (List.mem_cons_of_mem _ t_2006)) (fun _ h9 => h9) 0 rfl dX14_readFrom_82 ?_
                      refine lv_iload_n hx hb dX14_readFrom_85 rfl (lv_at hl 3 rfl) ?_
                      refine g_iald hx hb hK g ma_93 ka_93 (by decide) rfl (in_bd bv19_2 (by decide)) dX14_readFrom_86 (fun x_138 bx_138 cx_138 => ?_)
                      obtain rfl : x_94 = x_138 := el_same cx_94 cx_138 rfl
                      refine lv_goto (tgt := 100) hx hb dX14_readFrom_87 (by decide) ?_
                      refine lv_iadd hx hb dX14_readFrom_100 ?_
                      refine lv_topi (fun y_139 ey_139 => ?_)
                      have ty_139 := add_bd ey_139 kb_1 b_137 (by decide)
                      have b_140 : bd 3 13 y_139 := add_rg ty_139 kb_1 b_137 (by decide)
                      refine lv_istore (lv' := [(6, .int y_139), (5, .int r_71), (4, .int x_55), (3, .int x_31), (2, .int v19_2), (0, .ref a0_), (1, .int x1_)]) hx hb dX14_readFrom_101 hl (by decide) rfl (fun ls hl => ?_)
                      refine lv_aload_n hx hb dX14_readFrom_103 rfl (lv_at hl 5 rfl) ?_
                      refine lv_iload hx hb dX14_readFrom_104 (lv_at hl 0 rfl) ?_
                      refine lv_bipush (v := 12) hx hb dX14_readFrom_106 (by decide) ?_
                      have kb_12 : bd 12 12 (12 : Int32) := ⟨by decide, by decide⟩
                      refine lv_icmp_gt (tgt := 115) hx hb dX14_readFrom_108 (by decide) (fun c_141 => ?_) (fun c_141 => ?_)
                      · have fc_141 := lt_f c_141
                        have b_142 : bd 13 13 y_139 := ltR fc_141 kb_12 b_140 (by decide)
                        refine lv_iconst (v := 0) hx hb dX14_readFrom_115 (by decide) ?_
                        refine lv_bipush (v := 7) hx hb dX14_readFrom_116 (by decide) ?_
                        refine lv_iload hx hb dX14_readFrom_118 (lv_at hl 2 rfl) ?_
                        have kb_0 : bd 0 0 (0 : Int32) := ⟨by decide, by decide⟩
                        have go_ := g
                        refine g_callEv (As := [.int 0, .int 7, .int x_55]) (rest := []) ⟨hx, hb, hml, hown, hts⟩ (r_X14_need_2 l dC dI L kd tys fr_71 H.size g.2.2.2.1 a0_ ma0_ ka0_ 0 kb_0 7 x_55) (cwV 3 hts (gV_ t_2403 t_2405 t_100 t_198 t_2406) rfl rfl rfl (by decide +kernel) ⟨(show 1 + 1 ≤ N + 1 + 24 by omega), (show 8 + (4 + 11) + 22 ≤ 60 * (N + 1) + 700 by omega)⟩) (pre3V g hK ma0_ ka0_ (by decide) (q := (RX14, TX14, 67)) rfl) rfl hl.1 rfl (lv_room (Nat.le_of_ble_eq_true rfl)) dX14_readFrom_120 (cl_f hck_91) g hK (by decide) (by decide) (fx' := [(12, 51, q0_, .ref a_93), (14, 25, a0_, .int op_), (14, 10, a0_, .int x_73), (14, 2, a0_, .ref q0_), (14, 16, a0_, .int o_)]) rfl (fun xr_143 fr_143 H locs mxr_143 kxr_143 hp hMr_143 g => ?_) (fun fr_143 H locs hp hMr_143 g => ?_)
                        · have hG_144 := isV.frame hMr_143 go_.2.2.2.1 mq0_ kq0_ (by decide) (by decide) hV_78
                          have hG_145 := FR.frame hMr_143 go_.2.2.2.1 mq0_ kq0_ (by decide) (by decide) hF_88
                          have hG_146 := cEq.frame hMr_143 go_.2.2.2.1 ma0_ ka0_ (by decide) (by decide) hE_80
                          subst hQ
                          exact leavesX hempty hlocks (fun t ht hW => g_thrX g hK mxr_143 kxr_143 (by omega) ht hW) g.2.2.1.2.2
                        · exact hp.elim
                      · have fc_141 := nlt_f c_141
                        have b_147 : bd 3 12 y_139 := leL fc_141 b_140 kb_12 (by decide)
                        refine lv_iconst (v := 1) hx hb dX14_readFrom_111 (by decide) ?_
                        refine lv_goto (tgt := 116) hx hb dX14_readFrom_112 (by decide) ?_
                        refine lv_bipush (v := 7) hx hb dX14_readFrom_116 (by decide) ?_
                        refine lv_iload hx hb dX14_readFrom_118 (lv_at hl 2 rfl) ?_
                        have go_ := g
                        refine g_callEv (As := [.int 1, .int 7, .int x_55]) (rest := []) ⟨hx, hb, hml, hown, hts⟩ (r_X14_need_3 l dC dI L kd tys fr_71 H.size g.2.2.2.1 a0_ ma0_ ka0_ 1 kb_1 7 x_55) (cwV 3 hts (gV_ t_2403 t_2405 t_100 t_198 t_2406) rfl rfl rfl (by decide +kernel) ⟨(show 0 + 1 ≤ N + 1 + 24 by omega), (show 8 + (4 + 11) + 0 ≤ 60 * (N + 1) + 700 by omega)⟩) (pre3V g hK ma0_ ka0_ (by decide) (q := (RX14, TX14, 67)) rfl) rfl hl.1 rfl (lv_room (Nat.le_of_ble_eq_true rfl)) dX14_readFrom_120 (cl_f hck_91) g hK (by decide) (by decide) (fx' := [(12, 51, q0_, .ref a_93), (14, 25, a0_, .int op_), (14, 10, a0_, .int x_73), (14, 2, a0_, .ref q0_), (14, 16, a0_, .int o_)]) rfl (fun xr_148 fr_148 H locs mxr_148 kxr_148 hp hMr_148 g => ?_) (fun fr_148 H locs hp hMr_148 g => ?_)
                        · have hG_149 := isV.frame hMr_148 go_.2.2.2.1 mq0_ kq0_ (by decide) (by decide) hV_78
                          have hG_150 := FR.frame hMr_148 go_.2.2.2.1 mq0_ kq0_ (by decide) (by decide) hF_88
                          have hG_151 := cEq.frame hMr_148 go_.2.2.2.1 ma0_ ka0_ (by decide) (by decide) hE_80
                          exact hp.elim
                        · have hG_152 := isV.frame hMr_148 go_.2.2.2.1 mq0_ kq0_ (by decide) (by decide) hV_78
                          have hG_153 := FR.frame hMr_148 go_.2.2.2.1 mq0_ kq0_ (by decide) (by decide) hF_88
                          have hG_154 := cEq.frame hMr_148 go_.2.2.2.1 ma0_ ka0_ (by decide) (by decide) hE_80
                          refine lv_aload_n hx hb dX14_readFrom_123 rfl (lv_at hl 5 rfl) ?_
                          refine lv_iload_n hx hb dX14_readFrom_124 rfl (lv_at hl 3 rfl) ?_
                          refine lv_iload_n hx hb dX14_readFrom_125 rfl (lv_at hl 4 rfl) ?_
                          refine lv_iload hx hb dX14_readFrom_126 (lv_at hl 1 rfl) ?_
                          refine lv_iload hx hb dX14_readFrom_128 (lv_at hl 0 rfl) ?_
                          have hnb : (V_76.n 57).toInt ≤ 2499 := by omega
                          have go_ := g
                          refine g_calli (va_runV (As := [.int x_31, .int v19_2, .int r_71, .int y_139]) (rest := []) ⟨hx, hb, hml, hown, hts⟩ (r_X14_node l dC dI L kd tys fr_148 H.size g.2.2.2.1 a0_ ma0_ ka0_ x_31 v19_2 r_71 y_139 q0_ mq0_ kq0_ o_ bo_ V_76 hG_152 hnb (g.fcts [3, 4] rfl)) (cwV 4 hts (gV_ t_2480 t_2482 t_117 t_198 t_2483) rfl rfl rfl (by decide +kernel) ⟨(show 0 + 1 ≤ N + 1 + 24 by omega), (show 8 + (6 + 11) + 0 ≤ 60 * (N + 1) + 700 by omega)⟩) (pre3V g hK ma0_ ka0_ (by decide) (q := (RX14, TX14, 67)) rfl) rfl rfl hl.1 rfl (lv_room (Nat.le_of_ble_eq_true rfl)) dX14_readFrom_130 (cl_f hck_91)) g hK (by decide) (by decide) (fx' := [(12, 51, q0_, .ref a_93), (14, 25, a0_, .int op_), (14, 10, a0_, .int x_73), (14, 2, a0_, .ref q0_), (14, 16, a0_, .int o_)]) rfl (fun r_155 fr_155 H locs hp hMr_155 g => ?_)
                          obtain ⟨hx_156, hx_157, h_158, x_159, h_160, hF_161⟩ := hp
                          have hG_162 := cEq.frame hMr_155 go_.2.2.2.1 ma0_ ka0_ (by decide) (by decide) hG_154
                          have hF_163 := FR.call (mds := []) (mas := []) hG_153 go_ mq0_ kq0_ rfl hx_157
                          obtain ⟨V_164, hV_165, hN_166⟩ := hx_156
                          have g := g.more hF_161
                          refine lv_istore_n (lv' := [(2, .int r_155), (6, .int y_139), (5, .int r_71), (4, .int x_55), (3, .int x_31), (0, .ref a0_), (1, .int x1_)]) hx hb dX14_readFrom_133 rfl hl (by decide) rfl (fun ls hl => ?_)
                          refine lv_goto (tgt := 19) hx hb dX14_readFrom_134 (by decide) ?_
                          have hl9 := lv_sub hl [0, 5, 6] (by rfl : lv_pick [(2, .int r_155), (6, .int y_139), (5, .int r_71), (4, .int x_55), (3, .int x_31), (0, .ref a0_), (1, .int x1_)] [0, 5, 6] = [(2, .int r_155), (0, .ref a0_), (1, .int x1_)])
                          have g9 := g.sub (fx' := [(14, 25, a0_, .int op_), (14, 10, a0_, .int x_73), (14, 2, a0_, .ref q0_), (14, 16, a0_, .int o_)]) [2, 3, 4, 5] rfl
                          have hf_167 : fin V_76 V_164 r_155 12 o_ := nd_bin hN_166 h_158.1 hw_82 ⟨(by have h9_0 := bo_; unfold bd at h9_0; have h9_1 := bop_; unfold bd at h9_1; have h9_2 := h_158; unfold bd at h9_2; have h9_3 := h_30; unfold bd at h9_3; have h9_4 := b_26; unfold bd at h9_4; have h9_5 := b_92; unfold bd at h9_5; have h9_6 := bt_; unfold bd at h9_6; have h9_7 := bv19_2; unfold bd at h9_7; have h9_8 := b_68; unfold bd at h9_8; have h9_9 := b_2; unfold bd at h9_9; have h9_10 := h_160; unfold bd at h9_10; have h9_11 := h_32; unfold bd at h9_11; have h9_12 := h_34; unfold bd at h9_12; have h9_13 := h_51; unfold bd at h9_13; have h9_14 := bx_55; unfold bd at h9_14; have h9_15 := h_63; unfold bd at h9_15; have h9_16 := h_74; unfold bd at h9_16; have h9_17 := h_9; unfold bd at h9_17; have h9_18 := b_137; unfold bd at h9_18; have h9_19 := b_136; unfold bd at h9_19; have h9_20 := b_147; unfold bd at h9_20; have h9_21 := b_4; unfold bd at h9_21; have h8_0 := kb_1; unfold bd at h8_0; have h8_1 := kb_12; unfold bd at h8_1; have h8_2 := kb_6; unfold bd at h8_2; omega), (by have h9_0 := bo_; unfold bd at h9_0; have h9_1 := bop_; unfold bd at h9_1; have h9_2 := h_158; unfold bd at h9_2; have h9_3 := h_30; unfold bd at h9_3; have h9_4 := b_26; unfold bd at h9_4; have h9_5 := b_92; unfold bd at h9_5; have h9_6 := bt_; unfold bd at h9_6; have h9_7 := bv19_2; unfold bd at h9_7; have h9_8 := b_68; unfold bd at h9_8; have h9_9 := b_2; unfold bd at h9_9; have h9_10 := h_160; unfold bd at h9_10; have h9_11 := h_32; unfold bd at h9_11; have h9_12 := h_34; unfold bd at h9_12; have h9_13 := h_51; unfold bd at h9_13; have h9_14 := bx_55; unfold bd at h9_14; have h9_15 := h_63; unfold bd at h9_15; have h9_16 := h_74; unfold bd at h9_16; have h9_17 := h_9; unfold bd at h9_17; have h9_18 := b_137; unfold bd at h9_18; have h9_19 := b_136; unfold bd at h9_19; have h9_20 := b_147; unfold bd at h9_20; have h9_21 := b_4; unfold bd at h9_21; have h8_0 := kb_1; unfold bd at h8_0; have h8_1 := kb_12; unfold bd at h8_1; have h8_2 := kb_6; unfold bd at h8_2; omega)⟩ (by have h9_0 := bo_; unfold bd at h9_0; have h9_1 := bop_; unfold bd at h9_1; have h9_2 := h_158; unfold bd at h9_2; have h9_3 := h_30; unfold bd at h9_3; have h9_4 := b_26; unfold bd at h9_4; have h9_5 := b_92; unfold bd at h9_5; have h9_6 := bt_; unfold bd at h9_6; have h9_7 := bv19_2; unfold bd at h9_7; have h9_8 := b_68; unfold bd at h9_8; have h9_9 := b_2; unfold bd at h9_9; have h9_10 := h_160; unfold bd at h9_10; have h9_11 := h_32; unfold bd at h9_11; have h9_12 := h_34; unfold bd at h9_12; have h9_13 := h_51; unfold bd at h9_13; have h9_14 := bx_55; unfold bd at h9_14; have h9_15 := h_63; unfold bd at h9_15; have h9_16 := h_74; unfold bd at h9_16; have h9_17 := h_9; unfold bd at h9_17; have h9_18 := b_137; unfold bd at h9_18; have h9_19 := b_136; unfold bd at h9_19; have h9_20 := b_147; unfold bd at h9_20; have h9_21 := b_4; unfold bd at h9_21; have h8_0 := kb_1; unfold bd at h8_0; have h8_1 := kb_12; unfold bd at h8_1; have h8_2 := kb_6; unfold bd at h8_2; omega) (by rw [hx_89.2.2.1 0 (by decide)]; exact ho) (by have h9_0 := bo_; unfold bd at h9_0; have h9_1 := bop_; unfold bd at h9_1; have h9_2 := h_158; unfold bd at h9_2; have h9_3 := h_30; unfold bd at h9_3; have h9_4 := b_26; unfold bd at h9_4; have h9_5 := b_92; unfold bd at h9_5; have h9_6 := bt_; unfold bd at h9_6; have h9_7 := bv19_2; unfold bd at h9_7; have h9_8 := b_68; unfold bd at h9_8; have h9_9 := b_2; unfold bd at h9_9; have h9_10 := h_160; unfold bd at h9_10; have h9_11 := h_32; unfold bd at h9_11; have h9_12 := h_34; unfold bd at h9_12; have h9_13 := h_51; unfold bd at h9_13; have h9_14 := bx_55; unfold bd at h9_14; have h9_15 := h_63; unfold bd at h9_15; have h9_16 := h_74; unfold bd at h9_16; have h9_17 := h_9; unfold bd at h9_17; have h9_18 := b_137; unfold bd at h9_18; have h9_19 := b_136; unfold bd at h9_19; have h9_20 := b_147; unfold bd at h9_20; have h9_21 := b_4; unfold bd at h9_21; have h8_0 := kb_1; unfold bd at h8_0; have h8_1 := kb_12; unfold bd at h8_1; have h8_2 := kb_6; unfold bd at h8_2; omega) (EV.at_ he_90 vx_94) (by have h9_0 := bo_; unfold bd at h9_0; have h9_1 := bop_; unfold bd at h9_1; have h9_2 := h_158; unfold bd at h9_2; have h9_3 := h_30; unfold bd at h9_3; have h9_4 := b_26; unfold bd at h9_4; have h9_5 := b_92; unfold bd at h9_5; have h9_6 := bt_; unfold bd at h9_6; have h9_7 := bv19_2; unfold bd at h9_7; have h9_8 := b_68; unfold bd at h9_8; have h9_9 := b_2; unfold bd at h9_9; have h9_10 := h_160; unfold bd at h9_10; have h9_11 := h_32; unfold bd at h9_11; have h9_12 := h_34; unfold bd at h9_12; have h9_13 := h_51; unfold bd at h9_13; have h9_14 := bx_55; unfold bd at h9_14; have h9_15 := h_63; unfold bd at h9_15; have h9_16 := h_74; unfold bd at h9_16; have h9_17 := h_9; unfold bd at h9_17; have h9_18 := b_137; unfold bd at h9_18; have h9_19 := b_136; unfold bd at h9_19; have h9_20 := b_147; unfold bd at h9_20; have h9_21 := b_4; unfold bd at h9_21; have h8_0 := kb_1; unfold bd at h8_0; have h8_1 := kb_12; unfold bd at h8_1; have h8_2 := kb_6; unfold bd at h8_2; omega) (EV.at_ hv_83 vx_96) (by have h9_0 := bo_; unfold bd at h9_0; have h9_1 := bop_; unfold bd at h9_1; have h9_2 := h_158; unfold bd at h9_2; have h9_3 := h_30; unfold bd at h9_3; have h9_4 := b_26; unfold bd at h9_4; have h9_5 := b_92; unfold bd at h9_5; have h9_6 := bt_; unfold bd at h9_6; have h9_7 := bv19_2; unfold bd at h9_7; have h9_8 := b_68; unfold bd at h9_8; have h9_9 := b_2; unfold bd at h9_9; have h9_10 := h_160; unfold bd at h9_10; have h9_11 := h_32; unfold bd at h9_11; have h9_12 := h_34; unfold bd at h9_12; have h9_13 := h_51; unfold bd at h9_13; have h9_14 := bx_55; unfold bd at h9_14; have h9_15 := h_63; unfold bd at h9_15; have h9_16 := h_74; unfold bd at h9_16; have h9_17 := h_9; unfold bd at h9_17; have h9_18 := b_137; unfold bd at h9_18; have h9_19 := b_136; unfold bd at h9_19; have h9_20 := b_147; unfold bd at h9_20; have h9_21 := b_4; unfold bd at h9_21; have h8_0 := kb_1; unfold bd at h8_0; have h8_1 := kb_12; unfold bd at h8_1; have h8_2 := kb_6; unfold bd at h8_2; omega)
                          have ho_171 : (V_164.i 47 r_155.toNatClampNeg).toInt = x_31.toInt := (congrArg Int32.toInt (hN_166).2.2.2.1)
                          obtain ⟨V_168, hV_169, hf_170, ho_171⟩ : ∃ V1 : PV, isV fr_155 q0_ V1 ∧ fin V_76 V1 r_155 12 o_ ∧ (V1.i 47 r_155.toNatClampNeg).toInt = x_31.toInt := ⟨_, hV_165, hf_167, ho_171⟩
                          have hf_170n := hf_170.2.2.2
                          have hx_172 := exN.tr hx_89 hf_170.1
                          have he_173 := exN.ev hf_170.1 he_90
                          have he_174 := exN.ev hf_170.1 hv_83
                          exact ih19  r_155 x_73 h_158 h_74 (by have h9_0 := bv19_2; unfold bd at h9_0; have h9_1 := bw19_14_10_a0_; unfold bd at h9_1; have h9_2 := h_158; unfold bd at h9_2; have h9_3 := h_74; unfold bd at h9_3; have h9_4 := kb_1; unfold bd at h9_4; have h9_5 := kb_12; unfold bd at h9_5; have h9_6 := kb_6; unfold bd at h9_6; omega) _ _ _ _ _ g9 ⟨_, _, hV_169, hF_163, hG_162, hx_172, hf_170.2.1, hf_170.2.2.1, (by omega), (by omega), (by omega), (by omega), hck_91, (by omega)⟩ hl9
      have hl9 := lv_sub hl [0, 1, 2] (by rfl : lv_pick [(2, .int r_6), (0, .ref a0_), (1, .int x1_)] [0, 1, 2] = [(2, .int r_6), (0, .ref a0_), (1, .int x1_)])
      have g9 := g.sub (fx' := [(14, 25, a0_, .int op_), (14, 10, a0_, .int x_8), (14, 2, a0_, .ref q0_), (14, 16, a0_, .int o_)]) [0, 1, 2, 3] rfl
      exact loop_27 (1300) r_6 x_8 b_26 h_9 (by have h9_0 := b_26; unfold bd at h9_0; have h9_1 := h_9; unfold bd at h9_1; have h9_2 := kb_1; unfold bd at h9_2; have h9_3 := kb_6; unfold bd at h9_3; omega) _ _ _ _ _ g9 ⟨_, _, hV_13, hF_23, hE_15, hx_24, hw_17, hv_18, (by omega), (by omega), (by omega), (by omega), hck_25, (by omega)⟩ hl9
  · have fc_1 := eq_f c_1
    have b_175 : bd 6 6 x1_ := eqX fc_1 bx1_ kb_6 (by decide)
    refine lv_aload_n hx hb dX14_readFrom_6 rfl (lv_at hl 0 rfl) ?_
    have qc__176 : cF f0 a0_ = _ := hC_0
    have go_ := g
    refine g_callXi (As := []) (rest := []) ⟨hx, hb, hml, hown, hts⟩ (ih.2.1 l dC dI L kd tys f0 s.heap.size g.2.2.2.1 adK adV a0_ ma0_ ka0_ q0_ mq0_ kq0_ V_ o_ bo_ op_ bop_ t_ bt_ hV hwf ho (by omega) (K_ - cl_0) (by omega) (by have h9_0 := bo_; unfold bd at h9_0; have h9_1 := bop_; unfold bd at h9_1; have h9_2 := bt_; unfold bd at h9_2; have h9_3 := b_175; unfold bd at h9_3; have h8_0 := kb_6; unfold bd at h8_0; omega) (g.fcts [0, 1, 2, 3] rfl)) (cwV 0 hts (gV_ t_2468 t_2470 t_114 t_198 t_2471) rfl rfl rfl (by decide +kernel) ⟨(show N + 24 + 1 ≤ N + 1 + 24 by omega), (show 8 + (4 + 11) + (60 * N + 700) ≤ 60 * (N + 1) + 700 by omega)⟩) (pre3VA g hK hAm ma0_ ka0_ (by decide) (q := (RX14, TX14, 67)) rfl) rfl hl.1 rfl (lv_room (Nat.le_of_ble_eq_true rfl)) dX14_readFrom_7 (cl_k (K := K_) (k := K_ - cl_0) (show cl_0 + (K_ - cl_0) ≤ K_ by omega)) g hK (by decide) (by decide) (fx' := [(14, 2, a0_, .ref q0_), (14, 16, a0_, .int o_)]) rfl (fun xr_177 fr_177 H locs kr_177 cr_177 ecr_177 mxr_177 kxr_177 hp hMr_177 g => ?_) (fun r_177 fr_177 H locs kr_177 cr_177 ecr_177 hp hMr_177 g => ?_)
    · subst hQ
      exact leavesX hempty hlocks (fun t ht hW => g_thrX g hK mxr_177 kxr_177 (by omega) ht hW) g.2.2.1.2.2
    · obtain ⟨hx_178, x_179, h_180, hF_181⟩ := hp
      obtain ⟨V_182, E_183, hV_184, hF_185, hE_186, hX_187, hw_188, hv_189, hP_190, hn_191, hk_192, hc_193⟩ := rd_use hx_178 hC_0
      have hF_194 := FR.call (mds := []) (mas := []) FR.refl go_ mq0_ kq0_ rfl hF_185
      have mxE_183 : E_183 ≤ 1202 := by have h9 := cF_le g ma0_ ka0_; have h8 : cF _ _ = _ := hE_186; omega
      have hx_195 := exN.tr exN.rf hX_187
      have hck_196 : cr_177 ≤ K_ := by omega
      have b_197 : bd 0 2499 r_177 := ⟨hv_189.1, (by have h9 := hv_189.2.1; omega)⟩
      have g := g.more hF_181
      have h9c : cF fr_177 a0_ = _ := hE_186
      subst hQ
      exact iretX (v := r_177) hx hb hr (fun t ht hW => g_retX g hK ⟨_, rfl, ⟨⟨_, hV_184, hF_194, hx_195, hw_188, hv_189, trivial, (by omega), (by omega), (by omega)⟩, x_179, h_180, (g.fcts [0, 1] rfl)⟩⟩ ht hW) g.2.2.1.2.2 dX14_readFrom_10 hlocks
