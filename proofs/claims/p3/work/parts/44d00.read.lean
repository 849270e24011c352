set_option maxHeartbeats 4000000 in
set_option maxRecDepth 100000 in
theorem r_X14_readFrom (N : Nat) (ih : RecR N) (l : Launch) (dC : Nat → ClassId) (dI : Nat → Nat → Nat) (L : List Nat) (kd : Nat → Nat) (tys : List (ClassId × FieldType)) (f0 : Nat → va_E) (sz : Nat) (hWT : WT L kd tys f0) (adK adV : Nat → Nat) (a0_ : Nat) (ma0_ : a0_ ∈ L) (ka0_ : kd a0_ = 14) (x1_ : Int32) (bx1_ : bd 1 6 x1_) (q0_ : Nat) (mq0_ : q0_ ∈ L) (kq0_ : kd q0_ = 12) (V_ : PV) (o_ : Int32) (bo_ : bd 0 7 o_) (op_ : Int32) (bop_ : bd 0 40 op_) (t_ : Int32) (bt_ : bd 0 1201 t_) (hV : isV f0 q0_ V_) (hwf : wfN V_ (V_.n 57).toInt) (ho : (o_.toNatClampNeg : Int) < (V_.n 0).toInt) (hnn : (V_.n 57).toInt ≤ cF f0 a0_) (K_ : Nat) (hK_ : 1204 ≤ 2 * (K_ : Int) + cF f0 a0_) (hN : 11 * (40 - op_.toInt) + (11 - x1_.toInt) ≤ ((N + 1 : Nat) : Int)) (hfx : Fs L kd f0 [(14, 2, a0_, .ref q0_), (14, 16, a0_, .int o_), (14, 25, a0_, .int op_), (14, 10, a0_, .int t_)]) : MetX l yX14_readFrom (.code yX14_readFrom cX14_readFrom 7 (some .int) :: lw_g) ({ frames := (N + 1) + 24, cells := K_, slots := 3 * K_, locals := 60 * (N + 1) + 700 }) (va_Pc [.ref a0_, .int x1_] (P3A (dC, dI) L tys f0 sz adK adV)) (q3Z (dC, dI) L kd tys [(12, 57), (12, 58), (14, 6), (14, 7), (14, 8), (14, 9), (14, 10), (14, 11), (14, 12), (14, 13), (14, 14), (14, 15), (14, 25)] [180, 201, 202, 203, 204, 205, 206, 207, 208, 209, 210] f0 sz (pXi (fun (r : Int32) (f : Nat → va_E) (k : Nat) => (rdP L kd f0 a0_ q0_ V_ o_ (12) 0 r f k (fun _ => True)) ∧ ∃ z1_ : Int32, bd 0 1201 z1_ ∧ Fs L kd f [(14, 25, a0_, .int op_), (14, 10, a0_, .int z1_)])) (fun (f : Nat → va_E) (k : Nat) => FR L kd f0 f q0_ ∧ 2 * (k : Int) + cF f0 a0_ ≤ 1203)) (pA L sz) := by
  refine MetX.ofW (cc := cX14_readFrom) (maxL := 7) (ret := (some .int)) (by decide) rfl ?_
  intro p e s m args below meth c s₁ B hml hempty hv
  obtain ⟨rfl, ⟨hsz, hP, hK, hD0⟩, hAm⟩ := hv
  have hx := B.exec
  have hb := B.bytes
  have hr := B.returns
  have hts := atoms_spec (ws := (.code yX14_readFrom cX14_readFrom 7 (some .int) :: lw_g)) B.pre
  have hown : s.vm.findClass RX14 = some m.cls := findClass_of_methodNamed B.named
  have hlocks := B.notSynchronized
  subst hsz
  have g : G3 (dC, dI) L kd tys s f0 [(12, 57), (12, 58), (14, 6), (14, 7), (14, 8), (14, 9), (14, 10), (14, 11), (14, 12), (14, 13), (14, 14), (14, 15), (14, 25)] [180, 201, 202, 203, 204, 205, 206, 207, 208, 209, 210] f0 s.heap [] [(14, 2, a0_, .ref q0_), (14, 16, a0_, .int o_), (14, 25, a0_, .int op_), (14, 10, a0_, .int t_)] := G3.start hP hD0 hWT hfx
  have hl := lv_entry ([.ref a0_, .int x1_]) (n := 7) (Nat.le_of_ble_eq_true rfl)
  rw [lg_entry_eq]
  generalize (lg_sl ([.ref a0_, .int x1_]) ++ List.replicate (7 - (lg_sl ([.ref a0_, .int x1_])).length) Slot.unset).toArray = ls at hl ⊢
  have hl : lv_has ls 7 [(0, .ref a0_), (1, .int x1_)] := hl
  refine W_q (fun Q hQ => ?_)
  refine W_c0 (fun cl_0 hc_0 => ?_)
  have hck_0 : cl_0 ≤ K_ := by omega
  have hC_0 : cEq f0 a0_ (cF f0 a0_) := rfl
  have hm_0 : cF f0 a0_ ≤ 1202 := cF_le g ma0_ ka0_
  have hm_1 : -1 ≤ cF f0 a0_ := cF_ge g ma0_ ka0_
  refine lv_iload_n hx hb dX14_readFrom_0 rfl (lv_at hl 1 rfl) ?_
  refine lv_bipush (v := 6) hx hb dX14_readFrom_1 (by decide) ?_
  have kb_6 : bd 6 6 (6 : Int32) := ⟨by decide, by decide⟩
  refine lv_icmp_ne (tgt := 11) hx hb dX14_readFrom_3 (by decide) (fun c_1 => ?_) (fun c_1 => ?_)
  · have fc_1 := neq_f c_1
    have b_2 : bd 1 5 x1_ := neX fc_1 bx1_ kb_6 (by decide)
    refine lv_aload_n hx hb dX14_readFrom_11 rfl (lv_at hl 0 rfl) ?_
    refine lv_iload_n hx hb dX14_readFrom_12 rfl (lv_at hl 1 rfl) ?_
    refine lv_iconst (v := 1) hx hb dX14_readFrom_13 (by decide) ?_
    have kb_1 : bd 1 1 (1 : Int32) := ⟨by decide, by decide⟩
    refine lv_iadd hx hb dX14_readFrom_14 ?_
    refine lv_topi (fun y_3 ey_3 => ?_)
    have ty_3 := add_bd ey_3 b_2 kb_1 (by decide)
    have b_4 : bd 2 6 y_3 := add_rg ty_3 b_2 kb_1 (by decide)
    have qc__5 : cF f0 a0_ = _ := hC_0
    have go_ := g
    refine g_callZi (As := [.int y_3]) (rest := []) ⟨hx, hb, hml, hown, hts⟩ (ih.1 l dC dI L kd tys f0 s.heap.size g.2.2.2.1 adK adV a0_ ma0_ ka0_ y_3 (bd_sub b_4 (by decide)) q0_ mq0_ kq0_ V_ o_ bo_ op_ bop_ t_ bt_ hV hwf ho (by omega) (K_ - cl_0) (by omega) (by have h9_0 := bo_; unfold bd at h9_0; have h9_1 := bop_; unfold bd at h9_1; have h9_2 := bt_; unfold bd at h9_2; have h9_3 := b_2; unfold bd at h9_3; have h9_4 := b_4; unfold bd at h9_4; have h8_0 := kb_1; unfold bd at h8_0; have h8_1 := kb_6; unfold bd at h8_1; omega) (g.fcts [0, 1, 2, 3] rfl)) (cwV 1 hts (gV_ t_2464 t_2466 t_113 t_198 t_2467) rfl rfl rfl (by decide +kernel) ⟨(show N + 24 + 1 ≤ N + 1 + 24 by omega), (show 8 + (7 + 11) + (60 * N + 700) ≤ 60 * (N + 1) + 700 by omega)⟩) (pre3VA g hK hAm ma0_ ka0_ (by decide) (q := (RX14, TX14, 67)) rfl) rfl hl.1 rfl (lv_room (Nat.le_of_ble_eq_true rfl)) dX14_readFrom_15 (cl_k (K := K_) (k := K_ - cl_0) (show cl_0 + (K_ - cl_0) ≤ K_ by omega)) g hK (by decide) (by decide) (fx' := [(14, 2, a0_, .ref q0_), (14, 16, a0_, .int o_)]) rfl (fun xr_6 fr_6 H locs kr_6 cr_6 ecr_6 mxr_6 kxr_6 hp hMr_6 g => ?_) (fun r_6 fr_6 H locs kr_6 cr_6 ecr_6 hp hMr_6 g => ?_)
    · have hF_7 := FR.call (mds := []) (mas := []) FR.refl go_ mq0_ kq0_ rfl hp.1
      have hpk := hp.2
      subst hQ
      exact leavesX hempty hlocks (fun t ht hW => g_thrZ g hK mxr_6 kxr_6 ⟨hF_7, (by omega)⟩ ht hW) g.2.2.1.2.2
    · obtain ⟨hx_8, x_9, h_10, hF_11⟩ := hp
      obtain ⟨V_12, E_13, hV_14, hF_15, hE_16, hX_17, hw_18, hv_19, hP_20, hn_21, hk_22, hc_23⟩ := rd_use hx_8 hC_0
      have hF_24 := FR.call (mds := []) (mas := []) FR.refl go_ mq0_ kq0_ rfl hF_15
      have mxE_13 : E_13 ≤ 1202 := by have h9 := cF_le g ma0_ ka0_; have h8 : cF _ _ = _ := hE_16; omega
      have hx_25 := exN.tr exN.rf hX_17
      have hck_26 : cr_6 ≤ K_ := by omega
      have b_27 : bd 0 2499 r_6 := ⟨hv_19.1, (by have h9 := hv_19.2.1; omega)⟩
      have g := g.more hF_11
      refine lv_istore_n (lv' := [(2, .int r_6), (0, .ref a0_), (1, .int x1_)]) hx hb dX14_readFrom_18 rfl hl (by decide) rfl (fun ls hl => ?_)
      have loop_28 : ∀ (n : Nat) (v19_2 : Int32) (w19_14_10_a0_ : Int32), bd 0 2499 v19_2 → bd 0 1201 w19_14_10_a0_ → ((n : Int) - 1 < (n : Int)) → ∀ (f : Nat → va_E) (H : Heap) (locs : List Loc) (ls : Array Slot) (cl19 : Nat), G3 (dC, dI) L kd tys s f0 [(12, 57), (12, 58), (14, 6), (14, 7), (14, 8), (14, 9), (14, 10), (14, 11), (14, 12), (14, 13), (14, 14), (14, 15), (14, 25)] [180, 201, 202, 203, 204, 205, 206, 207, 208, 209, 210] f H locs [(14, 25, a0_, .int op_), (14, 10, a0_, .int w19_14_10_a0_), (14, 2, a0_, .ref q0_), (14, 16, a0_, .int o_)] → (∃ (V1 : PV) (E1 : Int), isV f q0_ V1 ∧ FR L kd f0 f q0_ ∧ cEq f a0_ E1 ∧ exN V_ V1 ∧ wfN V1 (V1.n 57).toInt ∧ EV V1 v19_2 12 o_.toNatClampNeg ∧ (V1.n 57).toInt - (V_.n 57).toInt ≤ E1 - cF f0 a0_ - 0 ∧ 2 * (cl19 : Int) ≤ E1 - cF f0 a0_ + 0 ∧ cF f0 a0_ + 1 ≤ E1 ∧ E1 ≤ 1202 ∧ cl19 ≤ K_ ∧ 1202 - E1 < (n : Int)) → lv_has ls 7 [(2, .int v19_2), (0, .ref a0_), (1, .int x1_)] → W p l e ({ frames := (N + 1) + 24, cells := K_, slots := 3 * K_, locals := 60 * (N + 1) + 700 } : Room) s m [.ref a0_, .int x1_].toArray below meth c H locs cl19 (3 * cl19) Q (F0 m 19 ls []) := by
        intro n19
        induction n19 with
        | zero =>
          intro v19_2 w19_14_10_a0_ bv19_2 bw19_14_10_a0_ hm19 f H locs ls cl19 g  ⟨V19, E19, hV19, hF19, hC19, hX19, hw19, he19, hn19, hk19, hc19, mx19, hck19, hms19⟩ hl
          exact absurd hms19 (by omega)
        | succ n19 ih19 =>
          intro v19_2 w19_14_10_a0_ bv19_2 bw19_14_10_a0_ hm19 f H locs ls cl19 g  ⟨V19, E19, hV19, hF19, hC19, hX19, hw19, he19, hn19, hk19, hc19, mx19, hck19, hms19⟩ hl
          refine lv_aload_n hx hb dX14_readFrom_19 rfl (lv_at hl 1 rfl) ?_
          have go_ := g
          refine g_calli (va_runV (As := []) (rest := []) ⟨hx, hb, hml, hown, hts⟩ (r_X14_strength_2 l dC dI L kd tys f H.size g.2.2.2.1 a0_ ma0_ ka0_) (cwV 0 hts (gV_ t_2520 t_2522 t_126 t_198 t_2523) rfl rfl rfl (by decide +kernel) ⟨(show 0 + 1 ≤ N + 1 + 24 by omega), (show 8 + (1 + 11) + 0 ≤ 60 * (N + 1) + 700 by omega)⟩) (pre3V g hK ma0_ ka0_ (by decide) (q := (RX14, TX14, 67)) rfl) rfl rfl hl.1 rfl (lv_room (Nat.le_of_ble_eq_true rfl)) dX14_readFrom_20 (cl_f hck19)) g hK (by decide) (by decide) (fx' := [(14, 25, a0_, .int op_), (14, 10, a0_, .int w19_14_10_a0_), (14, 2, a0_, .ref q0_), (14, 16, a0_, .int o_)]) rfl (fun r_29 fr_29 H locs hp hMr_29 g => ?_)
          rcases hp with ⟨h_30, -⟩ | ⟨h_31, x_32, h_33, x_34, h_35, hF_36⟩
          · have hG_37 := isV.frame hMr_29 go_.2.2.2.1 mq0_ kq0_ (by decide) (by decide) hV19
            have hG_38 := FR.frame hMr_29 go_.2.2.2.1 mq0_ kq0_ (by decide) (by decide) hF19
            have hG_39 := cEq.frame hMr_29 go_.2.2.2.1 ma0_ ka0_ (by decide) (by decide) hC19
            obtain rfl : r_29 = 0 := h_30
            refine lv_iload_n hx hb dX14_readFrom_23 rfl (lv_at hl 2 rfl) ?_
            have kb_0 : bd 0 0 (0 : Int32) := ⟨by decide, by decide⟩
            refine lv_icmp_ne (tgt := 137) hx hb dX14_readFrom_24 (by decide) (fun c_40 => ?_) (fun c_40 => ?_)
            · have fc_40 := neq_f c_40
              refine lv_iload_n hx hb dX14_readFrom_137 rfl (lv_at hl 0 rfl) ?_
              have h9c : cF fr_29 a0_ = _ := hG_39
              subst hQ
              exact iretX (v := v19_2) hx hb hr (fun t ht hW => g_retZ g hK ⟨_, rfl, ⟨⟨_, hG_37, hG_38, hX19, hw19, he19, trivial, (by omega), (by omega), (by omega)⟩, w19_14_10_a0_, bw19_14_10_a0_, (g.fcts [0, 1] rfl)⟩⟩ ht hW) g.2.2.1.2.2 dX14_readFrom_138 hlocks
            · have fc_40 := eq_f c_40
              have b_41 : bd 1 0 (0 : Int32) := eqX fc_40 kb_0 b_2 (by decide)
              exact bd_no (eqX rfl b_41 kb_0 (lo := 1) (hi := 0) (by decide)) (by decide)
          · have hG_42 := isV.frame hMr_29 go_.2.2.2.1 mq0_ kq0_ (by decide) (by decide) hV19
            have hG_43 := FR.frame hMr_29 go_.2.2.2.1 mq0_ kq0_ (by decide) (by decide) hF19
            have hG_44 := cEq.frame hMr_29 go_.2.2.2.1 ma0_ ka0_ (by decide) (by decide) hC19
            have g := g.more hF_36
            refine lv_iload_n hx hb dX14_readFrom_23 rfl (lv_at hl 2 rfl) ?_
            refine lv_icmp_ne (tgt := 137) hx hb dX14_readFrom_24 (by decide) (fun c_45 => ?_) (fun c_45 => ?_)
            · have fc_45 := neq_f c_45
              refine lv_iload_n hx hb dX14_readFrom_137 rfl (lv_at hl 0 rfl) ?_
              have h9c : cF fr_29 a0_ = _ := hG_44
              subst hQ
              exact iretX (v := v19_2) hx hb hr (fun t ht hW => g_retZ g hK ⟨_, rfl, ⟨⟨_, hG_42, hG_43, hX19, hw19, he19, trivial, (by omega), (by omega), (by omega)⟩, w19_14_10_a0_, bw19_14_10_a0_, (g.fcts [2, 3] rfl)⟩⟩ ht hW) g.2.2.1.2.2 dX14_readFrom_138 hlocks
            · have fc_45 := eq_f c_45
              refine lv_aload_n hx hb dX14_readFrom_27 rfl (lv_at hl 1 rfl) ?_
              have hs_46 := sE_1 g 1 rfl (by have h9_0 := bo_; unfold bd at h9_0; have h9_1 := bop_; unfold bd at h9_1; have h9_2 := h_31; unfold bd at h9_2; have h9_3 := b_27; unfold bd at h9_3; have h9_4 := bt_; unfold bd at h9_4; have h9_5 := bv19_2; unfold bd at h9_5; have h9_6 := bw19_14_10_a0_; unfold bd at h9_6; have h9_7 := b_2; unfold bd at h9_7; have h9_8 := h_33; unfold bd at h9_8; have h9_9 := h_35; unfold bd at h9_9; have h9_10 := h_10; unfold bd at h9_10; have h9_11 := b_4; unfold bd at h9_11; have h8_0 := kb_1; unfold bd at h8_0; have h8_1 := kb_6; unfold bd at h8_1; omega)
              have go_ := g
              refine g_callEv (As := []) (rest := []) ⟨hx, hb, hml, hown, hts⟩ (r_X14_counts_2 l dC dI L kd tys fr_29 H.size g.2.2.2.1 a0_ ma0_ ka0_ q0_ mq0_ kq0_ V19 hG_42 (g.fcts [4] rfl)) (cwV 0 hts (gV_ t_2476 t_2478 t_116 t_198 t_2479) rfl rfl rfl (by decide +kernel) ⟨(show 2 + 1 ≤ N + 1 + 24 by omega), (show 8 + (1 + 11) + 45 ≤ 60 * (N + 1) + 700 by omega)⟩) (pre3V g hK ma0_ ka0_ (by decide) (q := (RX14, TX14, 67)) rfl) rfl hl.1 rfl (lv_room (Nat.le_of_ble_eq_true rfl)) dX14_readFrom_28 (cl_f hck19) g hK (by decide) (by decide) (fx' := [(14, 7, a0_, .int x_32), (14, 6, a0_, .int x_34), (14, 25, a0_, .int op_), (14, 10, a0_, .int w19_14_10_a0_), (14, 2, a0_, .ref q0_), (14, 16, a0_, .int o_)]) rfl (fun xr_47 fr_47 H locs mxr_47 kxr_47 hp hMr_47 g => ?_) (fun fr_47 H locs hp hMr_47 g => ?_)
              · have hG_48 := cEq.frame hMr_47 go_.2.2.2.1 ma0_ ka0_ (by decide) (by decide) hG_44
                have hF_49 := FR.call (mds := []) (mas := []) hG_43 go_ mq0_ kq0_ rfl hp
                subst hQ
                exact leavesX hempty hlocks (fun t ht hW => g_thrZ g hK mxr_47 kxr_47 ⟨hF_49, (by omega)⟩ ht hW) g.2.2.1.2.2
              · obtain ⟨hx_50, hx_51, x_52, h_53, hF_54⟩ := hp
                have hG_55 := cEq.frame hMr_47 go_.2.2.2.1 ma0_ ka0_ (by decide) (by decide) hG_44
                have hF_56 := FR.call (mds := []) (mas := []) hG_43 go_ mq0_ kq0_ rfl hx_51
                have g := g.more hF_54
                refine lv_aload_n hx hb dX14_readFrom_31 rfl (lv_at hl 1 rfl) ?_
                refine g_getk (C := RX14) (T := TX14) (N := 67) hx hb hts (mc_ inX14) hown hK g rfl 7 (by decide) rfl (hts _ (List.mem_cons_of_mem _ t_2153)) (fun _ h9 => h9) 1 rfl dX14_readFrom_32 ?_
                refine lv_istore_n (lv' := [(3, .int x_32), (2, .int v19_2), (0, .ref a0_), (1, .int x1_)]) hx hb dX14_readFrom_35 rfl hl (by decide) rfl (fun ls hl => ?_)
                refine lv_aload_n hx hb dX14_readFrom_36 rfl (lv_at hl 2 rfl) ?_
                refine g_geti (C := RX14) (T := TX14) (N := 67) hx hb hts (mc_ inX14) hown hK g ma0_ ka0_ (by decide) rfl 8 (by decide) rfl (hts _ (List.mem_cons_of_mem _ t_2154)) (fun _ h9 => h9) rfl dX14_readFrom_37 (fun x_57 bx_57 g => ?_)
                refine lv_istore (lv' := [(4, .int x_57), (3, .int x_32), (2, .int v19_2), (0, .ref a0_), (1, .int x1_)]) hx hb dX14_readFrom_40 hl (by decide) rfl (fun ls hl => ?_)
                refine lv_aload_n hx hb dX14_readFrom_42 rfl (lv_at hl 3 rfl) ?_
                have hs_58 := sE_1 g 3 rfl (by have h9_0 := bo_; unfold bd at h9_0; have h9_1 := bop_; unfold bd at h9_1; have h9_2 := h_31; unfold bd at h9_2; have h9_3 := b_27; unfold bd at h9_3; have h9_4 := bt_; unfold bd at h9_4; have h9_5 := bv19_2; unfold bd at h9_5; have h9_6 := bw19_14_10_a0_; unfold bd at h9_6; have h9_7 := b_2; unfold bd at h9_7; have h9_8 := h_33; unfold bd at h9_8; have h9_9 := h_35; unfold bd at h9_9; have h9_10 := h_53; unfold bd at h9_10; have h9_11 := bx_57; unfold bd at h9_11; have h9_12 := h_10; unfold bd at h9_12; have h9_13 := b_4; unfold bd at h9_13; have h8_0 := kb_1; unfold bd at h8_0; have h8_1 := kb_6; unfold bd at h8_1; omega)
                have go_ := g
                refine g_callEv (As := []) (rest := []) ⟨hx, hb, hml, hown, hts⟩ (r_X14_next_2 l dC dI L kd tys fr_47 H.size g.2.2.2.1 adK adV a0_ ma0_ ka0_ w19_14_10_a0_ bw19_14_10_a0_ (g.fcts [5] rfl)) (cwV 0 hts (gV_ t_2411 t_2413 t_102 t_198 t_2414) rfl rfl rfl (by decide +kernel) ⟨(show 6 + 1 ≤ N + 1 + 24 by omega), (show 8 + (1 + 11) + 135 ≤ 60 * (N + 1) + 700 by omega)⟩) (pre3VA g hK hAm ma0_ ka0_ (by decide) (q := (RX14, TX14, 67)) rfl) rfl hl.1 rfl (lv_room (Nat.le_of_ble_eq_true rfl)) dX14_readFrom_43 (cl_f hck19) g hK (by decide) (by decide) (fx' := [(12, 58, q0_, .int x_52), (14, 25, a0_, .int op_), (14, 2, a0_, .ref q0_), (14, 16, a0_, .int o_)]) rfl (fun xr_59 fr_59 H locs mxr_59 kxr_59 hp hMr_59 g => ?_) (fun fr_59 H locs hp hMr_59 g => ?_)
                · have hG_60 := FR.frame hMr_59 go_.2.2.2.1 mq0_ kq0_ (by decide) (by decide) hF_56
                  have hG_61 := isV.frame hMr_59 go_.2.2.2.1 mq0_ kq0_ (by decide) (by decide) hx_50
                  subst hQ
                  exact leavesX hempty hlocks (fun t ht hW => g_thrZ g hK mxr_59 kxr_59 ⟨hG_60, (by omega)⟩ ht hW) g.2.2.1.2.2
                · obtain ⟨hx_62, h_63, x_64, h_65, hF_66⟩ := hp
                  have hG_67 := FR.frame hMr_59 go_.2.2.2.1 mq0_ kq0_ (by decide) (by decide) hF_56
                  have hG_68 := isV.frame hMr_59 go_.2.2.2.1 mq0_ kq0_ (by decide) (by decide) hx_50
                  obtain ⟨E_69, hE_69⟩ : ∃ E : Int, cEq fr_59 a0_ E := ⟨_, rfl⟩
                  have mxE_69 : E_69 ≤ 1202 := by have h9 := cF_le g ma0_ ka0_; have h8 : cF _ _ = _ := hE_69; omega
                  have lE_69 : E19 + 1 ≤ E_69 := by have h9 := hx_62; have h8 : cF _ _ = _ := hE_69; have h7 : cF _ _ = _ := hG_55; have h6 := hs_58; have h5 := tk_c (f := fr_47) (t := a0_); omega
                  have b_70 : bd 0 1200 w19_14_10_a0_ := eqX rfl bw19_14_10_a0_ h_63 (by decide)
                  have g := g.more hF_66
                  refine lv_aload_n hx hb dX14_readFrom_46 rfl (lv_at hl 3 rfl) ?_
                  refine lv_iload_n hx hb dX14_readFrom_47 rfl (lv_at hl 4 rfl) ?_
                  refine lv_iconst (v := 1) hx hb dX14_readFrom_48 (by decide) ?_
                  refine lv_iadd hx hb dX14_readFrom_49 ?_
                  refine lv_topi (fun y_71 ey_71 => ?_)
                  obtain rfl : y_3 = y_71 := ey_3.trans ey_71.symm
                  have qc__72 : cF fr_59 a0_ = _ := hE_69
                  have go_ := g
                  refine g_callZi (As := [.int y_3]) (rest := []) ⟨hx, hb, hml, hown, hts⟩ (ih.1 l dC dI L kd tys fr_59 H.size g.2.2.2.1 adK adV a0_ ma0_ ka0_ y_3 (bd_sub b_4 (by decide)) q0_ mq0_ kq0_ V19 o_ bo_ op_ bop_ x_64 h_65 hG_68 hw19 (by rw [hX19.2.2.1 0 (by decide)]; exact ho) (by omega) (K_ - cl19) (by omega) (by have h9_0 := bo_; unfold bd at h9_0; have h9_1 := bop_; unfold bd at h9_1; have h9_2 := h_31; unfold bd at h9_2; have h9_3 := b_27; unfold bd at h9_3; have h9_4 := bt_; unfold bd at h9_4; have h9_5 := bv19_2; unfold bd at h9_5; have h9_6 := b_70; unfold bd at h9_6; have h9_7 := b_2; unfold bd at h9_7; have h9_8 := h_33; unfold bd at h9_8; have h9_9 := h_35; unfold bd at h9_9; have h9_10 := h_53; unfold bd at h9_10; have h9_11 := bx_57; unfold bd at h9_11; have h9_12 := h_65; unfold bd at h9_12; have h9_13 := h_10; unfold bd at h9_13; have h9_14 := b_4; unfold bd at h9_14; have h8_0 := kb_1; unfold bd at h8_0; have h8_1 := kb_6; unfold bd at h8_1; omega) (g.fcts [3, 4, 2, 0] rfl)) (cwV 1 hts (gV_ t_2464 t_2466 t_113 t_198 t_2467) rfl rfl rfl (by decide +kernel) ⟨(show N + 24 + 1 ≤ N + 1 + 24 by omega), (show 8 + (7 + 11) + (60 * N + 700) ≤ 60 * (N + 1) + 700 by omega)⟩) (pre3VA g hK hAm ma0_ ka0_ (by decide) (q := (RX14, TX14, 67)) rfl) rfl hl.1 rfl (lv_room (Nat.le_of_ble_eq_true rfl)) dX14_readFrom_50 (cl_k (K := K_) (k := K_ - cl19) (show cl19 + (K_ - cl19) ≤ K_ by omega)) g hK (by decide) (by decide) (fx' := [(14, 2, a0_, .ref q0_), (14, 16, a0_, .int o_)]) rfl (fun xr_73 fr_73 H locs kr_73 cr_73 ecr_73 mxr_73 kxr_73 hp hMr_73 g => ?_) (fun r_73 fr_73 H locs kr_73 cr_73 ecr_73 hp hMr_73 g => ?_)
                  · have hF_74 := FR.call (mds := []) (mas := []) hG_67 go_ mq0_ kq0_ rfl hp.1
                    have hpk := hp.2
                    subst hQ
                    exact leavesX hempty hlocks (fun t ht hW => g_thrZ g hK mxr_73 kxr_73 ⟨hF_74, (by omega)⟩ ht hW) g.2.2.1.2.2
                  · obtain ⟨hx_75, x_76, h_77, hF_78⟩ := hp
                    obtain ⟨V_79, E_80, hV_81, hF_82, hE_83, hX_84, hw_85, hv_86, hP_87, hn_88, hk_89, hc_90⟩ := rd_use hx_75 hE_69
                    have hF_91 := FR.call (mds := []) (mas := []) hG_67 go_ mq0_ kq0_ rfl hF_82
                    have mxE_80 : E_80 ≤ 1202 := by have h9 := cF_le g ma0_ ka0_; have h8 : cF _ _ = _ := hE_83; omega
                    have hx_92 := exN.tr hX19 hX_84
                    have he_93 := exN.ev hX_84 he19
                    have hck_94 : cr_73 ≤ K_ := by omega
                    have b_95 : bd 0 2499 r_73 := ⟨hv_86.1, (by have h9 := hv_86.2.1; omega)⟩
                    have g := g.more hF_78
                    refine lv_istore (lv' := [(5, .int r_73), (4, .int x_57), (3, .int x_32), (2, .int v19_2), (0, .ref a0_), (1, .int x1_)]) hx hb dX14_readFrom_53 hl (by decide) rfl (fun ls hl => ?_)
                    refine lv_iconst (v := 1) hx hb dX14_readFrom_55 (by decide) ?_
                    refine lv_aload_n hx hb dX14_readFrom_56 rfl (lv_at hl 4 rfl) ?_
                    refine g_getk (C := RX14) (T := TX14) (N := 67) hx hb hts (mc_ inX14) hown hK g rfl 2 (by decide) rfl (hts _ (List.mem_cons_of_mem _ t_2148)) (fun _ h9 => h9) 2 rfl dX14_readFrom_57 ?_
                    refine g_getr (K := 205) (C := RX12) (T := TX12) (N := 60) hx hb hts (mc_ inX12) hown hK g mq0_ kq0_ (by decide) rfl 51 (by decide) rfl (hts _ (List.mem_cons_of_mem _ t_2006)) (fun _ h9 => h9) rfl dX14_readFrom_60 (fun a_96 ma_96 ka_96 g => ?_)
                    refine lv_iload_n hx hb dX14_readFrom_63 rfl (lv_at hl 3 rfl) ?_
                    refine g_iald hx hb hK g ma_96 ka_96 (by decide) rfl (in_bd bv19_2 (by decide)) dX14_readFrom_64 (fun x_97 bx_97 cx_97 => ?_)
                    have vx_97 : x_97 = V_79.i 51 v19_2.toNatClampNeg := hV_81.at g 0 rfl rfl cx_97
                    have b_98 : bd 1 12 x_97 := ev_hb hw_85 he_93 vx_97
                    refine lv_aload_n hx hb dX14_readFrom_65 rfl (lv_at hl 4 rfl) ?_
                    refine g_getk (C := RX14) (T := TX14) (N := 67) hx hb hts (mc_ inX14) hown hK g rfl 2 (by decide) rfl (hts _ (List.mem_cons_of_mem _ t_2148)) (fun _ h9 => h9) 3 rfl dX14_readFrom_66 ?_
                    refine g_getk (C := RX12) (T := TX12) (N := 60) hx hb hts (mc_ inX12) hown hK g rfl 51 (by decide) rfl (hts _ (List.mem_cons_of_mem _ t_2006)) (fun _ h9 => h9) 0 rfl dX14_readFrom_69 ?_
                    refine lv_iload hx hb dX14_readFrom_72 (lv_at hl 0 rfl) ?_
                    refine g_iald hx hb hK g ma_96 ka_96 (by decide) rfl (in_bd b_95 (by decide)) dX14_readFrom_74 (fun x_99 bx_99 cx_99 => ?_)
                    have vx_99 : x_99 = V_79.i 51 r_73.toNatClampNeg := hV_81.at g 0 rfl rfl cx_99
                    have b_100 : bd 1 12 x_99 := ev_hb hw_85 hv_86 vx_99
                    refine lv_icmp_le (tgt := 90) hx hb dX14_readFrom_75 (by decide) (fun c_101 => ?_) (fun c_101 => ?_)
                    · have fc_101 := le_f c_101
                      refine lv_aload_n hx hb dX14_readFrom_90 rfl (lv_at hl 4 rfl) ?_
                      refine g_getk (C := RX14) (T := TX14) (N := 67) hx hb hts (mc_ inX14) hown hK g rfl 2 (by decide) rfl (hts _ (List.mem_cons_of_mem _ t_2148)) (fun _ h9 => h9) 3 rfl dX14_readFrom_91 ?_
                      refine g_getk (C := RX12) (T := TX12) (N := 60) hx hb hts (mc_ inX12) hown hK g rfl 51 (by decide) rfl (hts _ (List.mem_cons_of_mem _ t_2006)) (fun _ h9 => h9) 0 rfl dX14_readFrom_94 ?_
                      refine lv_iload hx hb dX14_readFrom_97 (lv_at hl 0 rfl) ?_
                      refine g_iald hx hb hK g ma_96 ka_96 (by decide) rfl (in_bd b_95 (by decide)) dX14_readFrom_99 (fun x_102 bx_102 cx_102 => ?_)
                      obtain rfl : x_99 = x_102 := el_same cx_99 cx_102 rfl
                      refine lv_iadd hx hb dX14_readFrom_100 ?_
                      refine lv_topi (fun y_103 ey_103 => ?_)
                      have ty_103 := add_bd ey_103 kb_1 b_100 (by decide)
                      have b_104 : bd 2 13 y_103 := add_rg ty_103 kb_1 b_100 (by decide)
                      refine lv_istore (lv' := [(6, .int y_103), (5, .int r_73), (4, .int x_57), (3, .int x_32), (2, .int v19_2), (0, .ref a0_), (1, .int x1_)]) hx hb dX14_readFrom_101 hl (by decide) rfl (fun ls hl => ?_)
                      refine lv_aload_n hx hb dX14_readFrom_103 rfl (lv_at hl 5 rfl) ?_
                      refine lv_iload hx hb dX14_readFrom_104 (lv_at hl 0 rfl) ?_
                      refine lv_bipush (v := 12) hx hb dX14_readFrom_106 (by decide) ?_
                      have kb_12 : bd 12 12 (12 : Int32) := ⟨by decide, by decide⟩
                      refine lv_icmp_gt (tgt := 115) hx hb dX14_readFrom_108 (by decide) (fun c_105 => ?_) (fun c_105 => ?_)
                      · have fc_105 := lt_f c_105
                        have b_106 : bd 13 13 y_103 := ltR fc_105 kb_12 b_104 (by decide)
                        refine lv_iconst (v := 0) hx hb dX14_readFrom_115 (by decide) ?_
                        refine lv_bipush (v := 7) hx hb dX14_readFrom_116 (by decide) ?_
                        refine lv_iload hx hb dX14_readFrom_118 (lv_at hl 2 rfl) ?_
                        have kb_0 : bd 0 0 (0 : Int32) := ⟨by decide, by decide⟩
                        have go_ := g
                        refine g_callEv (As := [.int 0, .int 7, .int x_57]) (rest := []) ⟨hx, hb, hml, hown, hts⟩ (r_X14_need_2 l dC dI L kd tys fr_73 H.size g.2.2.2.1 a0_ ma0_ ka0_ 0 kb_0 7 x_57) (cwV 3 hts (gV_ t_2403 t_2405 t_100 t_198 t_2406) rfl rfl rfl (by decide +kernel) ⟨(show 1 + 1 ≤ N + 1 + 24 by omega), (show 8 + (4 + 11) + 22 ≤ 60 * (N + 1) + 700 by omega)⟩) (pre3V g hK ma0_ ka0_ (by decide) (q := (RX14, TX14, 67)) rfl) rfl hl.1 rfl (lv_room (Nat.le_of_ble_eq_true rfl)) dX14_readFrom_120 (cl_f hck_94) g hK (by decide) (by decide) (fx' := [(12, 51, q0_, .ref a_96), (14, 25, a0_, .int op_), (14, 10, a0_, .int x_76), (14, 2, a0_, .ref q0_), (14, 16, a0_, .int o_)]) rfl (fun xr_107 fr_107 H locs mxr_107 kxr_107 hp hMr_107 g => ?_) (fun fr_107 H locs hp hMr_107 g => ?_)
                        · have hG_108 := isV.frame hMr_107 go_.2.2.2.1 mq0_ kq0_ (by decide) (by decide) hV_81
                          have hG_109 := FR.frame hMr_107 go_.2.2.2.1 mq0_ kq0_ (by decide) (by decide) hF_91
                          have hG_110 := cEq.frame hMr_107 go_.2.2.2.1 ma0_ ka0_ (by decide) (by decide) hE_83
                          subst hQ
                          exact leavesX hempty hlocks (fun t ht hW => g_thrZ g hK mxr_107 kxr_107 ⟨hG_109, (by omega)⟩ ht hW) g.2.2.1.2.2
                        · exact hp.elim
                      · have fc_105 := nlt_f c_105
                        have b_111 : bd 2 12 y_103 := leL fc_105 b_104 kb_12 (by decide)
                        refine lv_iconst (v := 1) hx hb dX14_readFrom_111 (by decide) ?_
                        refine lv_goto (tgt := 116) hx hb dX14_readFrom_112 (by decide) ?_
                        refine lv_bipush (v := 7) hx hb dX14_readFrom_116 (by decide) ?_
                        refine lv_iload hx hb dX14_readFrom_118 (lv_at hl 2 rfl) ?_
                        have go_ := g
                        refine g_callEv (As := [.int 1, .int 7, .int x_57]) (rest := []) ⟨hx, hb, hml, hown, hts⟩ (r_X14_need_3 l dC dI L kd tys fr_73 H.size g.2.2.2.1 a0_ ma0_ ka0_ 1 kb_1 7 x_57) (cwV 3 hts (gV_ t_2403 t_2405 t_100 t_198 t_2406) rfl rfl rfl (by decide +kernel) ⟨(show 0 + 1 ≤ N + 1 + 24 by omega), (show 8 + (4 + 11) + 0 ≤ 60 * (N + 1) + 700 by omega)⟩) (pre3V g hK ma0_ ka0_ (by decide) (q := (RX14, TX14, 67)) rfl) rfl hl.1 rfl (lv_room (Nat.le_of_ble_eq_true rfl)) dX14_readFrom_120 (cl_f hck_94) g hK (by decide) (by decide) (fx' := [(12, 51, q0_, .ref a_96), (14, 25, a0_, .int op_), (14, 10, a0_, .int x_76), (14, 2, a0_, .ref q0_), (14, 16, a0_, .int o_)]) rfl (fun xr_112 fr_112 H locs mxr_112 kxr_112 hp hMr_112 g => ?_) (fun fr_112 H locs hp hMr_112 g => ?_)
                        · have hG_113 := isV.frame hMr_112 go_.2.2.2.1 mq0_ kq0_ (by decide) (by decide) hV_81
                          have hG_114 := FR.frame hMr_112 go_.2.2.2.1 mq0_ kq0_ (by decide) (by decide) hF_91
                          have hG_115 := cEq.frame hMr_112 go_.2.2.2.1 ma0_ ka0_ (by decide) (by decide) hE_83
                          exact hp.elim
                        · have hG_116 := isV.frame hMr_112 go_.2.2.2.1 mq0_ kq0_ (by decide) (by decide) hV_81
                          have hG_117 := FR.frame hMr_112 go_.2.2.2.1 mq0_ kq0_ (by decide) (by decide) hF_91
                          have hG_118 := cEq.frame hMr_112 go_.2.2.2.1 ma0_ ka0_ (by decide) (by decide) hE_83
                          refine lv_aload_n hx hb dX14_readFrom_123 rfl (lv_at hl 5 rfl) ?_
                          refine lv_iload_n hx hb dX14_readFrom_124 rfl (lv_at hl 3 rfl) ?_
                          refine lv_iload_n hx hb dX14_readFrom_125 rfl (lv_at hl 4 rfl) ?_
                          refine lv_iload hx hb dX14_readFrom_126 (lv_at hl 1 rfl) ?_
                          refine lv_iload hx hb dX14_readFrom_128 (lv_at hl 0 rfl) ?_
                          have hnb : (V_79.n 57).toInt ≤ 2499 := by omega
                          have go_ := g
                          refine g_calli (va_runV (As := [.int x_32, .int v19_2, .int r_73, .int y_103]) (rest := []) ⟨hx, hb, hml, hown, hts⟩ (r_X14_node l dC dI L kd tys fr_112 H.size g.2.2.2.1 a0_ ma0_ ka0_ x_32 v19_2 r_73 y_103 q0_ mq0_ kq0_ o_ bo_ V_79 hG_116 hnb (g.fcts [3, 4] rfl)) (cwV 4 hts (gV_ t_2480 t_2482 t_117 t_198 t_2483) rfl rfl rfl (by decide +kernel) ⟨(show 0 + 1 ≤ N + 1 + 24 by omega), (show 8 + (6 + 11) + 0 ≤ 60 * (N + 1) + 700 by omega)⟩) (pre3V g hK ma0_ ka0_ (by decide) (q := (RX14, TX14, 67)) rfl) rfl rfl hl.1 rfl (lv_room (Nat.le_of_ble_eq_true rfl)) dX14_readFrom_130 (cl_f hck_94)) g hK (by decide) (by decide) (fx' := [(12, 51, q0_, .ref a_96), (14, 25, a0_, .int op_), (14, 10, a0_, .int x_76), (14, 2, a0_, .ref q0_), (14, 16, a0_, .int o_)]) rfl (fun r_119 fr_119 H locs hp hMr_119 g => ?_)
                          obtain ⟨hx_120, hx_121, h_122, x_123, h_124, hF_125⟩ := hp
                          have hG_126 := cEq.frame hMr_119 go_.2.2.2.1 ma0_ ka0_ (by decide) (by decide) hG_118
                          have hF_127 := FR.call (mds := []) (mas := []) hG_117 go_ mq0_ kq0_ rfl hx_121
                          obtain ⟨V_128, hV_129, hN_130⟩ := hx_120
                          have g := g.more hF_125
                          refine lv_istore_n (lv' := [(2, .int r_119), (6, .int y_103), (5, .int r_73), (4, .int x_57), (3, .int x_32), (0, .ref a0_), (1, .int x1_)]) hx hb dX14_readFrom_133 rfl hl (by decide) rfl (fun ls hl => ?_)
                          refine lv_goto (tgt := 19) hx hb dX14_readFrom_134 (by decide) ?_
                          have hl9 := lv_sub hl [0, 5, 6] (by rfl : lv_pick [(2, .int r_119), (6, .int y_103), (5, .int r_73), (4, .int x_57), (3, .int x_32), (0, .ref a0_), (1, .int x1_)] [0, 5, 6] = [(2, .int r_119), (0, .ref a0_), (1, .int x1_)])
                          have g9 := g.sub (fx' := [(14, 25, a0_, .int op_), (14, 10, a0_, .int x_76), (14, 2, a0_, .ref q0_), (14, 16, a0_, .int o_)]) [2, 3, 4, 5] rfl
                          have hf_131 : fin V_79 V_128 r_119 12 o_ := nd_bin hN_130 h_122.1 hw_85 ⟨(by have h9_0 := bo_; unfold bd at h9_0; have h9_1 := bop_; unfold bd at h9_1; have h9_2 := h_122; unfold bd at h9_2; have h9_3 := h_31; unfold bd at h9_3; have h9_4 := b_27; unfold bd at h9_4; have h9_5 := b_95; unfold bd at h9_5; have h9_6 := bt_; unfold bd at h9_6; have h9_7 := bv19_2; unfold bd at h9_7; have h9_8 := b_70; unfold bd at h9_8; have h9_9 := b_2; unfold bd at h9_9; have h9_10 := h_124; unfold bd at h9_10; have h9_11 := h_33; unfold bd at h9_11; have h9_12 := h_35; unfold bd at h9_12; have h9_13 := h_53; unfold bd at h9_13; have h9_14 := bx_57; unfold bd at h9_14; have h9_15 := h_65; unfold bd at h9_15; have h9_16 := h_77; unfold bd at h9_16; have h9_17 := h_10; unfold bd at h9_17; have h9_18 := b_98; unfold bd at h9_18; have h9_19 := b_100; unfold bd at h9_19; have h9_20 := b_111; unfold bd at h9_20; have h9_21 := b_4; unfold bd at h9_21; have h8_0 := kb_1; unfold bd at h8_0; have h8_1 := kb_12; unfold bd at h8_1; have h8_2 := kb_6; unfold bd at h8_2; omega), (by have h9_0 := bo_; unfold bd at h9_0; have h9_1 := bop_; unfold bd at h9_1; have h9_2 := h_122; unfold bd at h9_2; have h9_3 := h_31; unfold bd at h9_3; have h9_4 := b_27; unfold bd at h9_4; have h9_5 := b_95; unfold bd at h9_5; have h9_6 := bt_; unfold bd at h9_6; have h9_7 := bv19_2; unfold bd at h9_7; have h9_8 := b_70; unfold bd at h9_8; have h9_9 := b_2; unfold bd at h9_9; have h9_10 := h_124; unfold bd at h9_10; have h9_11 := h_33; unfold bd at h9_11; have h9_12 := h_35; unfold bd at h9_12; have h9_13 := h_53; unfold bd at h9_13; have h9_14 := bx_57; unfold bd at h9_14; have h9_15 := h_65; unfold bd at h9_15; have h9_16 := h_77; unfold bd at h9_16; have h9_17 := h_10; unfold bd at h9_17; have h9_18 := b_98; unfold bd at h9_18; have h9_19 := b_100; unfold bd at h9_19; have h9_20 := b_111; unfold bd at h9_20; have h9_21 := b_4; unfold bd at h9_21; have h8_0 := kb_1; unfold bd at h8_0; have h8_1 := kb_12; unfold bd at h8_1; have h8_2 := kb_6; unfold bd at h8_2; omega)⟩ (by have h9_0 := bo_; unfold bd at h9_0; have h9_1 := bop_; unfold bd at h9_1; have h9_2 := h_122; unfold bd at h9_2; have h9_3 := h_31; unfold bd at h9_3; have h9_4 := b_27; unfold bd at h9_4; have h9_5 := b_95; unfold bd at h9_5; have h9_6 := bt_; unfold bd at h9_6; have h9_7 := bv19_2; unfold bd at h9_7; have h9_8 := b_70; unfold bd at h9_8; have h9_9 := b_2; unfold bd at h9_9; have h9_10 := h_124; unfold bd at h9_10; have h9_11 := h_33; unfold bd at h9_11; have h9_12 := h_35; unfold bd at h9_12; have h9_13 := h_53; unfold bd at h9_13; have h9_14 := bx_57; unfold bd at h9_14; have h9_15 := h_65; unfold bd at h9_15; have h9_16 := h_77; unfold bd at h9_16; have h9_17 := h_10; unfold bd at h9_17; have h9_18 := b_98; unfold bd at h9_18; have h9_19 := b_100; unfold bd at h9_19; have h9_20 := b_111; unfold bd at h9_20; have h9_21 := b_4; unfold bd at h9_21; have h8_0 := kb_1; unfold bd at h8_0; have h8_1 := kb_12; unfold bd at h8_1; have h8_2 := kb_6; unfold bd at h8_2; omega) (by rw [hx_92.2.2.1 0 (by decide)]; exact ho) (by have h9_0 := bo_; unfold bd at h9_0; have h9_1 := bop_; unfold bd at h9_1; have h9_2 := h_122; unfold bd at h9_2; have h9_3 := h_31; unfold bd at h9_3; have h9_4 := b_27; unfold bd at h9_4; have h9_5 := b_95; unfold bd at h9_5; have h9_6 := bt_; unfold bd at h9_6; have h9_7 := bv19_2; unfold bd at h9_7; have h9_8 := b_70; unfold bd at h9_8; have h9_9 := b_2; unfold bd at h9_9; have h9_10 := h_124; unfold bd at h9_10; have h9_11 := h_33; unfold bd at h9_11; have h9_12 := h_35; unfold bd at h9_12; have h9_13 := h_53; unfold bd at h9_13; have h9_14 := bx_57; unfold bd at h9_14; have h9_15 := h_65; unfold bd at h9_15; have h9_16 := h_77; unfold bd at h9_16; have h9_17 := h_10; unfold bd at h9_17; have h9_18 := b_98; unfold bd at h9_18; have h9_19 := b_100; unfold bd at h9_19; have h9_20 := b_111; unfold bd at h9_20; have h9_21 := b_4; unfold bd at h9_21; have h8_0 := kb_1; unfold bd at h8_0; have h8_1 := kb_12; unfold bd at h8_1; have h8_2 := kb_6; unfold bd at h8_2; omega) (EV.at_ he_93 vx_97) (by have h9_0 := bo_; unfold bd at h9_0; have h9_1 := bop_; unfold bd at h9_1; have h9_2 := h_122; unfold bd at h9_2; have h9_3 := h_31; unfold bd at h9_3; have h9_4 := b_27; unfold bd at h9_4; have h9_5 := b_95; unfold bd at h9_5; have h9_6 := bt_; unfold bd at h9_6; have h9_7 := bv19_2; unfold bd at h9_7; have h9_8 := b_70; unfold bd at h9_8; have h9_9 := b_2; unfold bd at h9_9; have h9_10 := h_124; unfold bd at h9_10; have h9_11 := h_33; unfold bd at h9_11; have h9_12 := h_35; unfold bd at h9_12; have h9_13 := h_53; unfold bd at h9_13; have h9_14 := bx_57; unfold bd at h9_14; have h9_15 := h_65; unfold bd at h9_15; have h9_16 := h_77; unfold bd at h9_16; have h9_17 := h_10; unfold bd at h9_17; have h9_18 := b_98; unfold bd at h9_18; have h9_19 := b_100; unfold bd at h9_19; have h9_20 := b_111; unfold bd at h9_20; have h9_21 := b_4; unfold bd at h9_21; have h8_0 := kb_1; unfold bd at h8_0; have h8_1 := kb_12; unfold bd at h8_1; have h8_2 := kb_6; unfold bd at h8_2; omega) (EV.at_ hv_86 vx_99) (by have h9_0 := bo_; unfold bd at h9_0; have h9_1 := bop_; unfold bd at h9_1; have h9_2 := h_122; unfold bd at h9_2; have h9_3 := h_31; unfold bd at h9_3; have h9_4 := b_27; unfold bd at h9_4; have h9_5 := b_95; unfold bd at h9_5; have h9_6 := bt_; unfold bd at h9_6; have h9_7 := bv19_2; unfold bd at h9_7; have h9_8 := b_70; unfold bd at h9_8; have h9_9 := b_2; unfold bd at h9_9; have h9_10 := h_124; unfold bd at h9_10; have h9_11 := h_33; unfold bd at h9_11; have h9_12 := h_35; unfold bd at h9_12; have h9_13 := h_53; unfold bd at h9_13; have h9_14 := bx_57; unfold bd at h9_14; have h9_15 := h_65; unfold bd at h9_15; have h9_16 := h_77; unfold bd at h9_16; have h9_17 := h_10; unfold bd at h9_17; have h9_18 := b_98; unfold bd at h9_18; have h9_19 := b_100; unfold bd at h9_19; have h9_20 := b_111; unfold bd at h9_20; have h9_21 := b_4; unfold bd at h9_21; have h8_0 := kb_1; unfold bd at h8_0; have h8_1 := kb_12; unfold bd at h8_1; have h8_2 := kb_6; unfold bd at h8_2; omega)
                          have ho_135 : (V_128.i 47 r_119.toNatClampNeg).toInt = x_32.toInt := (congrArg Int32.toInt (hN_130).2.2.2.1)
                          obtain ⟨V_132, hV_133, hf_134, ho_135⟩ : ∃ V1 : PV, isV fr_119 q0_ V1 ∧ fin V_79 V1 r_119 12 o_ ∧ (V1.i 47 r_119.toNatClampNeg).toInt = x_32.toInt := ⟨_, hV_129, hf_131, ho_135⟩
                          have hf_134n := hf_134.2.2.2
                          have hx_136 := exN.tr hx_92 hf_134.1
                          have he_137 := exN.ev hf_134.1 he_93
                          have he_138 := exN.ev hf_134.1 hv_86
                          exact ih19  r_119 x_76 h_122 h_77 (by have h9_0 := bv19_2; unfold bd at h9_0; have h9_1 := bw19_14_10_a0_; unfold bd at h9_1; have h9_2 := h_122; unfold bd at h9_2; have h9_3 := h_77; unfold bd at h9_3; have h9_4 := kb_1; unfold bd at h9_4; have h9_5 := kb_12; unfold bd at h9_5; have h9_6 := kb_6; unfold bd at h9_6; omega) _ _ _ _ _ g9 ⟨_, _, hV_133, hF_127, hG_126, hx_136, hf_134.2.1, hf_134.2.2.1, (by omega), (by omega), (by omega), (by omega), hck_94, (by omega)⟩ hl9
                    · have fc_101 := nle_f c_101
                      have b_139 : bd 1 11 x_99 := ltL fc_101 b_100 b_98 (by decide)
                      have b_140 : bd 2 12 x_97 := ltR fc_101 b_100 b_98 (by decide)
                      refine lv_aload_n hx hb dX14_readFrom_78 rfl (lv_at hl 4 rfl) ?_
                      refine g_getk (C := RX14) (T := TX14) (N := 67) hx hb hts (mc_ inX14) hown hK g rfl 2 (by decide) rfl (hts _ (List.mem_cons_of_mem _ t_2148)) (fun _ h9 => h9) 3 rfl dX14_readFrom_79 ?_
                      refine g_getk (C := RX12) (T := TX12) (N := 60) hx hb hts (mc_ inX12) hown hK g rfl 51 (by decide) rfl (hts _ (List.mem_cons_of_mem _ t_2006)) (fun _ h9 => h9) 0 rfl dX14_readFrom_82 ?_
                      refine lv_iload_n hx hb dX14_readFrom_85 rfl (lv_at hl 3 rfl) ?_
                      refine g_iald hx hb hK g ma_96 ka_96 (by decide) rfl (in_bd bv19_2 (by decide)) dX14_readFrom_86 (fun x_141 bx_141 cx_141 => ?_)
                      obtain rfl : x_97 = x_141 := el_same cx_97 cx_141 rfl
                      refine lv_goto (tgt := 100) hx hb dX14_readFrom_87 (by decide) ?_
                      refine lv_iadd hx hb dX14_readFrom_100 ?_
                      refine lv_topi (fun y_142 ey_142 => ?_)
                      have ty_142 := add_bd ey_142 kb_1 b_140 (by decide)
                      have b_143 : bd 3 13 y_142 := add_rg ty_142 kb_1 b_140 (by decide)
                      refine lv_istore (lv' := [(6, .int y_142), (5, .int r_73), (4, .int x_57), (3, .int x_32), (2, .int v19_2), (0, .ref a0_), (1, .int x1_)]) hx hb dX14_readFrom_101 hl (by decide) rfl (fun ls hl => ?_)
                      refine lv_aload_n hx hb dX14_readFrom_103 rfl (lv_at hl 5 rfl) ?_
                      refine lv_iload hx hb dX14_readFrom_104 (lv_at hl 0 rfl) ?_
                      refine lv_bipush (v := 12) hx hb dX14_readFrom_106 (by decide) ?_
                      have kb_12 : bd 12 12 (12 : Int32) := ⟨by decide, by decide⟩
                      refine lv_icmp_gt (tgt := 115) hx hb dX14_readFrom_108 (by decide) (fun c_144 => ?_) (fun c_144 => ?_)
                      · have fc_144 := lt_f c_144
                        have b_145 : bd 13 13 y_142 := ltR fc_144 kb_12 b_143 (by decide)
                        refine lv_iconst (v := 0) hx hb dX14_readFrom_115 (by decide) ?_
                        refine lv_bipush (v := 7) hx hb dX14_readFrom_116 (by decide) ?_
                        refine lv_iload hx hb dX14_readFrom_118 (lv_at hl 2 rfl) ?_
                        have kb_0 : bd 0 0 (0 : Int32) := ⟨by decide, by decide⟩
                        have go_ := g
                        refine g_callEv (As := [.int 0, .int 7, .int x_57]) (rest := []) ⟨hx, hb, hml, hown, hts⟩ (r_X14_need_2 l dC dI L kd tys fr_73 H.size g.2.2.2.1 a0_ ma0_ ka0_ 0 kb_0 7 x_57) (cwV 3 hts (gV_ t_2403 t_2405 t_100 t_198 t_2406) rfl rfl rfl (by decide +kernel) ⟨(show 1 + 1 ≤ N + 1 + 24 by omega), (show 8 + (4 + 11) + 22 ≤ 60 * (N + 1) + 700 by omega)⟩) (pre3V g hK ma0_ ka0_ (by decide) (q := (RX14, TX14, 67)) rfl) rfl hl.1 rfl (lv_room (Nat.le_of_ble_eq_true rfl)) dX14_readFrom_120 (cl_f hck_94) g hK (by decide) (by decide) (fx' := [(12, 51, q0_, .ref a_96), (14, 25, a0_, .int op_), (14, 10, a0_, .int x_76), (14, 2, a0_, .ref q0_), (14, 16, a0_, .int o_)]) rfl (fun xr_146 fr_146 H locs mxr_146 kxr_146 hp hMr_146 g => ?_) (fun fr_146 H locs hp hMr_146 g => ?_)
                        · have hG_147 := isV.frame hMr_146 go_.2.2.2.1 mq0_ kq0_ (by decide) (by decide) hV_81
                          have hG_148 := FR.frame hMr_146 go_.2.2.2.1 mq0_ kq0_ (by decide) (by decide) hF_91
                          have hG_149 := cEq.frame hMr_146 go_.2.2.2.1 ma0_ ka0_ (by decide) (by decide) hE_83
                          subst hQ
                          exact leavesX hempty hlocks (fun t ht hW => g_thrZ g hK mxr_146 kxr_146 ⟨hG_148, (by omega)⟩ ht hW) g.2.2.1.2.2
                        · exact hp.elim
                      · have fc_144 := nlt_f c_144
                        have b_150 : bd 3 12 y_142 := leL fc_144 b_143 kb_12 (by decide)
                        refine lv_iconst (v := 1) hx hb dX14_readFrom_111 (by decide) ?_
                        refine lv_goto (tgt := 116) hx hb dX14_readFrom_112 (by decide) ?_
                        refine lv_bipush (v := 7) hx hb dX14_readFrom_116 (by decide) ?_
                        refine lv_iload hx hb dX14_readFrom_118 (lv_at hl 2 rfl) ?_
                        have go_ := g
                        refine g_callEv (As := [.int 1, .int 7, .int x_57]) (rest := []) ⟨hx, hb, hml, hown, hts⟩ (r_X14_need_3 l dC dI L kd tys fr_73 H.size g.2.2.2.1 a0_ ma0_ ka0_ 1 kb_1 7 x_57) (cwV 3 hts (gV_ t_2403 t_2405 t_100 t_198 t_2406) rfl rfl rfl (by decide +kernel) ⟨(show 0 + 1 ≤ N + 1 + 24 by omega), (show 8 + (4 + 11) + 0 ≤ 60 * (N + 1) + 700 by omega)⟩) (pre3V g hK ma0_ ka0_ (by decide) (q := (RX14, TX14, 67)) rfl) rfl hl.1 rfl (lv_room (Nat.le_of_ble_eq_true rfl)) dX14_readFrom_120 (cl_f hck_94) g hK (by decide) (by decide) (fx' := [(12, 51, q0_, .ref a_96), (14, 25, a0_, .int op_), (14, 10, a0_, .int x_76), (14, 2, a0_, .ref q0_), (14, 16, a0_, .int o_)]) rfl (fun xr_151 fr_151 H locs mxr_151 kxr_151 hp hMr_151 g => ?_) (fun fr_151 H locs hp hMr_151 g => ?_)
                        · have hG_152 := isV.frame hMr_151 go_.2.2.2.1 mq0_ kq0_ (by decide) (by decide) hV_81
                          have hG_153 := FR.frame hMr_151 go_.2.2.2.1 mq0_ kq0_ (by decide) (by decide) hF_91
                          have hG_154 := cEq.frame hMr_151 go_.2.2.2.1 ma0_ ka0_ (by decide) (by decide) hE_83
                          exact hp.elim
                        · have hG_155 := isV.frame hMr_151 go_.2.2.2.1 mq0_ kq0_ (by decide) (by decide) hV_81
                          have hG_156 := FR.frame hMr_151 go_.2.2.2.1 mq0_ kq0_ (by decide) (by decide) hF_91
                          have hG_157 := cEq.frame hMr_151 go_.2.2.2.1 ma0_ ka0_ (by decide) (by decide) hE_83
                          refine lv_aload_n hx hb dX14_readFrom_123 rfl (lv_at hl 5 rfl) ?_
                          refine lv_iload_n hx hb dX14_readFrom_124 rfl (lv_at hl 3 rfl) ?_
                          refine lv_iload_n hx hb dX14_readFrom_125 rfl (lv_at hl 4 rfl) ?_
                          refine lv_iload hx hb dX14_readFrom_126 (lv_at hl 1 rfl) ?_
                          refine lv_iload hx hb dX14_readFrom_128 (lv_at hl 0 rfl) ?_
                          have hnb : (V_79.n 57).toInt ≤ 2499 := by omega
                          have go_ := g
                          refine g_calli (va_runV (As := [.int x_32, .int v19_2, .int r_73, .int y_142]) (rest := []) ⟨hx, hb, hml, hown, hts⟩ (r_X14_node l dC dI L kd tys fr_151 H.size g.2.2.2.1 a0_ ma0_ ka0_ x_32 v19_2 r_73 y_142 q0_ mq0_ kq0_ o_ bo_ V_79 hG_155 hnb (g.fcts [3, 4] rfl)) (cwV 4 hts (gV_ t_2480 t_2482 t_117 t_198 t_2483) rfl rfl rfl (by decide +kernel) ⟨(show 0 + 1 ≤ N + 1 + 24 by omega), (show 8 + (6 + 11) + 0 ≤ 60 * (N + 1) + 700 by omega)⟩) (pre3V g hK ma0_ ka0_ (by decide) (q := (RX14, TX14, 67)) rfl) rfl rfl hl.1 rfl (lv_room (Nat.le_of_ble_eq_true rfl)) dX14_readFrom_130 (cl_f hck_94)) g hK (by decide) (by decide) (fx' := [(12, 51, q0_, .ref a_96), (14, 25, a0_, .int op_), (14, 10, a0_, .int x_76), (14, 2, a0_, .ref q0_), (14, 16, a0_, .int o_)]) rfl (fun r_158 fr_158 H locs hp hMr_158 g => ?_)
                          obtain ⟨hx_159, hx_160, h_161, x_162, h_163, hF_164⟩ := hp
                          have hG_165 := cEq.frame hMr_158 go_.2.2.2.1 ma0_ ka0_ (by decide) (by decide) hG_157
                          have hF_166 := FR.call (mds := []) (mas := []) hG_156 go_ mq0_ kq0_ rfl hx_160
                          obtain ⟨V_167, hV_168, hN_169⟩ := hx_159
                          have g := g.more hF_164
                          refine lv_istore_n (lv' := [(2, .int r_158), (6, .int y_142), (5, .int r_73), (4, .int x_57), (3, .int x_32), (0, .ref a0_), (1, .int x1_)]) hx hb dX14_readFrom_133 rfl hl (by decide) rfl (fun ls hl => ?_)
                          refine lv_goto (tgt := 19) hx hb dX14_readFrom_134 (by decide) ?_
                          have hl9 := lv_sub hl [0, 5, 6] (by rfl : lv_pick [(2, .int r_158), (6, .int y_142), (5, .int r_73), (4, .int x_57), (3, .int x_32), (0, .ref a0_), (1, .int x1_)] [0, 5, 6] = [(2, .int r_158), (0, .ref a0_), (1, .int x1_)])
                          have g9 := g.sub (fx' := [(14, 25, a0_, .int op_), (14, 10, a0_, .int x_76), (14, 2, a0_, .ref q0_), (14, 16, a0_, .int o_)]) [2, 3, 4, 5] rfl
                          have hf_170 : fin V_79 V_167 r_158 12 o_ := nd_bin hN_169 h_161.1 hw_85 ⟨(by have h9_0 := bo_; unfold bd at h9_0; have h9_1 := bop_; unfold bd at h9_1; have h9_2 := h_161; unfold bd at h9_2; have h9_3 := h_31; unfold bd at h9_3; have h9_4 := b_27; unfold bd at h9_4; have h9_5 := b_95; unfold bd at h9_5; have h9_6 := bt_; unfold bd at h9_6; have h9_7 := bv19_2; unfold bd at h9_7; have h9_8 := b_70; unfold bd at h9_8; have h9_9 := b_2; unfold bd at h9_9; have h9_10 := h_163; unfold bd at h9_10; have h9_11 := h_33; unfold bd at h9_11; have h9_12 := h_35; unfold bd at h9_12; have h9_13 := h_53; unfold bd at h9_13; have h9_14 := bx_57; unfold bd at h9_14; have h9_15 := h_65; unfold bd at h9_15; have h9_16 := h_77; unfold bd at h9_16; have h9_17 := h_10; unfold bd at h9_17; have h9_18 := b_140; unfold bd at h9_18; have h9_19 := b_139; unfold bd at h9_19; have h9_20 := b_150; unfold bd at h9_20; have h9_21 := b_4; unfold bd at h9_21; have h8_0 := kb_1; unfold bd at h8_0; have h8_1 := kb_12; unfold bd at h8_1; have h8_2 := kb_6; unfold bd at h8_2; omega), (by have h9_0 := bo_; unfold bd at h9_0; have h9_1 := bop_; unfold bd at h9_1; have h9_2 := h_161; unfold bd at h9_2; have h9_3 := h_31; unfold bd at h9_3; have h9_4 := b_27; unfold bd at h9_4; have h9_5 := b_95; unfold bd at h9_5; have h9_6 := bt_; unfold bd at h9_6; have h9_7 := bv19_2; unfold bd at h9_7; have h9_8 := b_70; unfold bd at h9_8; have h9_9 := b_2; unfold bd at h9_9; have h9_10 := h_163; unfold bd at h9_10; have h9_11 := h_33; unfold bd at h9_11; have h9_12 := h_35; unfold bd at h9_12; have h9_13 := h_53; unfold bd at h9_13; have h9_14 := bx_57; unfold bd at h9_14; have h9_15 := h_65; unfold bd at h9_15; have h9_16 := h_77; unfold bd at h9_16; have h9_17 := h_10; unfold bd at h9_17; have h9_18 := b_140; unfold bd at h9_18; have h9_19 := b_139; unfold bd at h9_19; have h9_20 := b_150; unfold bd at h9_20; have h9_21 := b_4; unfold bd at h9_21; have h8_0 := kb_1; unfold bd at h8_0; have h8_1 := kb_12; unfold bd at h8_1; have h8_2 := kb_6; unfold bd at h8_2; omega)⟩ (by have h9_0 := bo_; unfold bd at h9_0; have h9_1 := bop_; unfold bd at h9_1; have h9_2 := h_161; unfold bd at h9_2; have h9_3 := h_31; unfold bd at h9_3; have h9_4 := b_27; unfold bd at h9_4; have h9_5 := b_95; unfold bd at h9_5; have h9_6 := bt_; unfold bd at h9_6; have h9_7 := bv19_2; unfold bd at h9_7; have h9_8 := b_70; unfold bd at h9_8; have h9_9 := b_2; unfold bd at h9_9; have h9_10 := h_163; unfold bd at h9_10; have h9_11 := h_33; unfold bd at h9_11; have h9_12 := h_35; unfold bd at h9_12; have h9_13 := h_53; unfold bd at h9_13; have h9_14 := bx_57; unfold bd at h9_14; have h9_15 := h_65; unfold bd at h9_15; have h9_16 := h_77; unfold bd at h9_16; have h9_17 := h_10; unfold bd at h9_17; have h9_18 := b_140; unfold bd at h9_18; have h9_19 := b_139; unfold bd at h9_19; have h9_20 := b_150; unfold bd at h9_20; have h9_21 := b_4; unfold bd at h9_21; have h8_0 := kb_1; unfold bd at h8_0; have h8_1 := kb_12; unfold bd at h8_1; have h8_2 := kb_6; unfold bd at h8_2; omega) (by rw [hx_92.2.2.1 0 (by decide)]; exact ho) (by have h9_0 := bo_; unfold bd at h9_0; have h9_1 := bop_; unfold bd at h9_1; have h9_2 := h_161; unfold bd at h9_2; have h9_3 := h_31; unfold bd at h9_3; have h9_4 := b_27; unfold bd at h9_4; have h9_5 := b_95; unfold bd at h9_5; have h9_6 := bt_; unfold bd at h9_6; have h9_7 := bv19_2; unfold bd at h9_7; have h9_8 := b_70; unfold bd at h9_8; have h9_9 := b_2; unfold bd at h9_9; have h9_10 := h_163; unfold bd at h9_10; have h9_11 := h_33; unfold bd at h9_11; have h9_12 := h_35; unfold bd at h9_12; have h9_13 := h_53; unfold bd at h9_13; have h9_14 := bx_57; unfold bd at h9_14; have h9_15 := h_65; unfold bd at h9_15; have h9_16 := h_77; unfold bd at h9_16; have h9_17 := h_10; unfold bd at h9_17; have h9_18 := b_140; unfold bd at h9_18; have h9_19 := b_139; unfold bd at h9_19; have h9_20 := b_150; unfold bd at h9_20; have h9_21 := b_4; unfold bd at h9_21; have h8_0 := kb_1; unfold bd at h8_0; have h8_1 := kb_12; unfold bd at h8_1; have h8_2 := kb_6; unfold bd at h8_2; omega) (EV.at_ he_93 vx_97) (by have h9_0 := bo_; unfold bd at h9_0; have h9_1 := bop_; unfold bd at h9_1; have h9_2 := h_161; unfold bd at h9_2; have h9_3 := h_31; unfold bd at h9_3; have h9_4 := b_27; unfold bd at h9_4; have h9_5 := b_95; unfold bd at h9_5; have h9_6 := bt_; unfold bd at h9_6; have h9_7 := bv19_2; unfold bd at h9_7; have h9_8 := b_70; unfold bd at h9_8; have h9_9 := b_2; unfold bd at h9_9; have h9_10 := h_163; unfold bd at h9_10; have h9_11 := h_33; unfold bd at h9_11; have h9_12 := h_35; unfold bd at h9_12; have h9_13 := h_53; unfold bd at h9_13; have h9_14 := bx_57; unfold bd at h9_14; have h9_15 := h_65; unfold bd at h9_15; have h9_16 := h_77; unfold bd at h9_16; have h9_17 := h_10; unfold bd at h9_17; have h9_18 := b_140; unfold bd at h9_18; have h9_19 := b_139; unfold bd at h9_19; have h9_20 := b_150; unfold bd at h9_20; have h9_21 := b_4; unfold bd at h9_21; have h8_0 := kb_1; unfold bd at h8_0; have h8_1 := kb_12; unfold bd at h8_1; have h8_2 := kb_6; unfold bd at h8_2; omega) (EV.at_ hv_86 vx_99) (by have h9_0 := bo_; unfold bd at h9_0; have h9_1 := bop_; unfold bd at h9_1; have h9_2 := h_161; unfold bd at h9_2; have h9_3 := h_31; unfold bd at h9_3; have h9_4 := b_27; unfold bd at h9_4; have h9_5 := b_95; unfold bd at h9_5; have h9_6 := bt_; unfold bd at h9_6; have h9_7 := bv19_2; unfold bd at h9_7; have h9_8 := b_70; unfold bd at h9_8; have h9_9 := b_2; unfold bd at h9_9; have h9_10 := h_163; unfold bd at h9_10; have h9_11 := h_33; unfold bd at h9_11; have h9_12 := h_35; unfold bd at h9_12; have h9_13 := h_53; unfold bd at h9_13; have h9_14 := bx_57; unfold bd at h9_14; have h9_15 := h_65; unfold bd at h9_15; have h9_16 := h_77; unfold bd at h9_16; have h9_17 := h_10; unfold bd at h9_17; have h9_18 := b_140; unfold bd at h9_18; have h9_19 := b_139; unfold bd at h9_19; have h9_20 := b_150; unfold bd at h9_20; have h9_21 := b_4; unfold bd at h9_21; have h8_0 := kb_1; unfold bd at h8_0; have h8_1 := kb_12; unfold bd at h8_1; have h8_2 := kb_6; unfold bd at h8_2; omega)
                          have ho_174 : (V_167.i 47 r_158.toNatClampNeg).toInt = x_32.toInt := (congrArg Int32.toInt (hN_169).2.2.2.1)
                          obtain ⟨V_171, hV_172, hf_173, ho_174⟩ : ∃ V1 : PV, isV fr_158 q0_ V1 ∧ fin V_79 V1 r_158 12 o_ ∧ (V1.i 47 r_158.toNatClampNeg).toInt = x_32.toInt := ⟨_, hV_168, hf_170, ho_174⟩
                          have hf_173n := hf_173.2.2.2
                          have hx_175 := exN.tr hx_92 hf_173.1
                          have he_176 := exN.ev hf_173.1 he_93
                          have he_177 := exN.ev hf_173.1 hv_86
                          exact ih19  r_158 x_76 h_161 h_77 (by have h9_0 := bv19_2; unfold bd at h9_0; have h9_1 := bw19_14_10_a0_; unfold bd at h9_1; have h9_2 := h_161; unfold bd at h9_2; have h9_3 := h_77; unfold bd at h9_3; have h9_4 := kb_1; unfold bd at h9_4; have h9_5 := kb_12; unfold bd at h9_5; have h9_6 := kb_6; unfold bd at h9_6; omega) _ _ _ _ _ g9 ⟨_, _, hV_172, hF_166, hG_165, hx_175, hf_173.2.1, hf_173.2.2.1, (by omega), (by omega), (by omega), (by omega), hck_94, (by omega)⟩ hl9
      have hl9 := lv_sub hl [0, 1, 2] (by rfl : lv_pick [(2, .int r_6), (0, .ref a0_), (1, .int x1_)] [0, 1, 2] = [(2, .int r_6), (0, .ref a0_), (1, .int x1_)])
      have g9 := g.sub (fx' := [(14, 25, a0_, .int op_), (14, 10, a0_, .int x_9), (14, 2, a0_, .ref q0_), (14, 16, a0_, .int o_)]) [0, 1, 2, 3] rfl
      exact loop_28 (1300) r_6 x_9 b_27 h_10 (by have h9_0 := b_27; unfold bd at h9_0; have h9_1 := h_10; unfold bd at h9_1; have h9_2 := kb_1; unfold bd at h9_2; have h9_3 := kb_6; unfold bd at h9_3; omega) _ _ _ _ _ g9 ⟨_, _, hV_14, hF_24, hE_16, hx_25, hw_18, hv_19, (by omega), (by omega), (by omega), (by omega), hck_26, (by omega)⟩ hl9
  · have fc_1 := eq_f c_1
    have b_178 : bd 6 6 x1_ := eqX fc_1 bx1_ kb_6 (by decide)
    refine lv_aload_n hx hb dX14_readFrom_6 rfl (lv_at hl 0 rfl) ?_
    have qc__179 : cF f0 a0_ = _ := hC_0
    have go_ := g
    refine g_callZi (As := []) (rest := []) ⟨hx, hb, hml, hown, hts⟩ (ih.2.1 l dC dI L kd tys f0 s.heap.size g.2.2.2.1 adK adV a0_ ma0_ ka0_ q0_ mq0_ kq0_ V_ o_ bo_ op_ bop_ t_ bt_ hV hwf ho (by omega) (K_ - cl_0) (by omega) (by have h9_0 := bo_; unfold bd at h9_0; have h9_1 := bop_; unfold bd at h9_1; have h9_2 := bt_; unfold bd at h9_2; have h9_3 := b_178; unfold bd at h9_3; have h8_0 := kb_6; unfold bd at h8_0; omega) (g.fcts [0, 1, 2, 3] rfl)) (cwV 0 hts (gV_ t_2468 t_2470 t_114 t_198 t_2471) rfl rfl rfl (by decide +kernel) ⟨(show N + 24 + 1 ≤ N + 1 + 24 by omega), (show 8 + (4 + 11) + (60 * N + 700) ≤ 60 * (N + 1) + 700 by omega)⟩) (pre3VA g hK hAm ma0_ ka0_ (by decide) (q := (RX14, TX14, 67)) rfl) rfl hl.1 rfl (lv_room (Nat.le_of_ble_eq_true rfl)) dX14_readFrom_7 (cl_k (K := K_) (k := K_ - cl_0) (show cl_0 + (K_ - cl_0) ≤ K_ by omega)) g hK (by decide) (by decide) (fx' := [(14, 2, a0_, .ref q0_), (14, 16, a0_, .int o_)]) rfl (fun xr_180 fr_180 H locs kr_180 cr_180 ecr_180 mxr_180 kxr_180 hp hMr_180 g => ?_) (fun r_180 fr_180 H locs kr_180 cr_180 ecr_180 hp hMr_180 g => ?_)
    · have hF_181 := FR.call (mds := []) (mas := []) FR.refl go_ mq0_ kq0_ rfl hp.1
      have hpk := hp.2
      subst hQ
      exact leavesX hempty hlocks (fun t ht hW => g_thrZ g hK mxr_180 kxr_180 ⟨hF_181, (by omega)⟩ ht hW) g.2.2.1.2.2
    · obtain ⟨hx_182, x_183, h_184, hF_185⟩ := hp
      obtain ⟨V_186, E_187, hV_188, hF_189, hE_190, hX_191, hw_192, hv_193, hP_194, hn_195, hk_196, hc_197⟩ := rd_use hx_182 hC_0
      have hF_198 := FR.call (mds := []) (mas := []) FR.refl go_ mq0_ kq0_ rfl hF_189
      have mxE_187 : E_187 ≤ 1202 := by have h9 := cF_le g ma0_ ka0_; have h8 : cF _ _ = _ := hE_190; omega
      have hx_199 := exN.tr exN.rf hX_191
      have hck_200 : cr_180 ≤ K_ := by omega
      have b_201 : bd 0 2499 r_180 := ⟨hv_193.1, (by have h9 := hv_193.2.1; omega)⟩
      have g := g.more hF_185
      have h9c : cF fr_180 a0_ = _ := hE_190
      subst hQ
      exact iretX (v := r_180) hx hb hr (fun t ht hW => g_retZ g hK ⟨_, rfl, ⟨⟨_, hV_188, hF_198, hx_199, hw_192, hv_193, trivial, (by omega), (by omega), (by omega)⟩, x_183, h_184, (g.fcts [0, 1] rfl)⟩⟩ ht hW) g.2.2.1.2.2 dX14_readFrom_10 hlocks
