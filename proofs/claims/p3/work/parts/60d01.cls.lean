set_option maxHeartbeats 4000000 in
set_option maxRecDepth 100000 in
theorem r_X14_readParam (l : Launch) (dC : Nat → ClassId) (dI : Nat → Nat → Nat) (L : List Nat) (kd : Nat → Nat) (tys : List (ClassId × FieldType)) (f0 : Nat → va_E) (sz : Nat) (hWT : WT L kd tys f0) (adK adV : Nat → Nat) (a0_ : Nat) (ma0_ : a0_ ∈ L) (ka0_ : kd a0_ = 14) (q0_ : Nat) (mq0_ : q0_ ∈ L) (kq0_ : kd q0_ = 12) (V_ : PV) (δ_ : Nat → Nat) (o_ : Int32) (bo_ : bd 0 7 o_) (op_ : Int32) (bop_ : bd 0 40 op_) (t_ : Int32) (bt_ : bd 0 1201 t_) (me_ : Int32) (bme_ : bd 0 109 me_) (pa_ : Int32) (bpa_ : bd 0 3 pa_) (hV : isV f0 q0_ V_) (hKI : KI V_ δ_ o_.toNatClampNeg) (hnn : (V_.n 57).toInt ≤ cF f0 a0_) (hns : 2 * (V_.n 46).toInt ≤ cF f0 a0_) (hn0 : 0 ≤ (V_.n 46).toInt) (hmN : (V_.n 27).toInt ≤ (me_.toNatClampNeg : Int)) (hpa : pa_ = V_.i 19 me_.toNatClampNeg) (hlh : ∀ k : Nat, (k : Int) < pa_.toInt → (V_.i 20 (3 * me_.toNatClampNeg + k)).toInt ≤ (V_.i 21 (3 * me_.toNatClampNeg + k)).toInt) (K_ : Nat) (hK_ : 1204 ≤ 2 * (K_ : Int) + cF f0 a0_) (hfx : Fs L kd f0 [(14, 2, a0_, .ref q0_), (14, 16, a0_, .int o_), (14, 25, a0_, .int op_), (14, 10, a0_, .int t_), (14, 17, a0_, .int me_), (14, 20, a0_, .int pa_)]) : MetX l yX14_readParam (.code yX14_readParam cX14_readParam 4 none :: lw_g) ({ frames := 8, cells := K_, slots := 3 * K_, locals := 177 }) (va_Pc [.ref a0_] (P3A (dC, dI) L tys f0 sz adK adV)) (q3Z (dC, dI) L kd tys [(12, 46), (12, 57), (12, 58), (14, 6), (14, 7), (14, 8), (14, 9), (14, 10), (14, 11), (14, 12), (14, 13), (14, 14), (14, 15), (14, 20), (14, 21), (14, 22), (14, 23), (14, 24), (14, 25), (14, 26)] [160, 161, 162, 163, 164, 165, 166, 167, 168, 169, 175, 176, 177, 178, 180, 182, 183, 184, 185, 186, 187, 188, 189, 190, 191, 192, 193, 194, 195, 196, 197, 198, 199, 200, 201, 202, 203, 204, 205, 206, 207, 208, 209, 210, 213, 214] f0 sz (pXv (fun (f : Nat → va_E) (k : Nat) => (rdK L kd f0 a0_ q0_ V_ o_.toNatClampNeg f k (fun V1 => prP V_ V1 me_.toNatClampNeg pa_)) ∧ ∃ z1_ : Int32, bd 0 1201 z1_ ∧ ∃ z2_ : Int32, (bd 1 3 z2_ ∧ z2_.toInt = pa_.toInt + 1) ∧ Fs L kd f [(14, 25, a0_, .int op_), (14, 10, a0_, .int z1_), (14, 20, a0_, .int z2_)])) (fun (f : Nat → va_E) (k : Nat) => FR L kd f0 f q0_ ∧ 2 * (k : Int) + cF f0 a0_ ≤ 1203)) (pA L sz) := by
  refine MetX.ofW (cc := cX14_readParam) (maxL := 4) (ret := none) (by decide) rfl ?_
  intro p e s m args below meth c s₁ B hml hempty hv
  obtain ⟨rfl, ⟨hsz, hP, hK, hD0⟩, hAm⟩ := hv
  have hx := B.exec
  have hb := B.bytes
  have hr := B.returns
  have hts := atoms_spec (ws := (.code yX14_readParam cX14_readParam 4 none :: lw_g)) B.pre
  have hown : s.vm.findClass RX14 = some m.cls := findClass_of_methodNamed B.named
  have hlocks := B.notSynchronized
  subst hsz
  have g : G3 (dC, dI) L kd tys s f0 [(12, 46), (12, 57), (12, 58), (14, 6), (14, 7), (14, 8), (14, 9), (14, 10), (14, 11), (14, 12), (14, 13), (14, 14), (14, 15), (14, 20), (14, 21), (14, 22), (14, 23), (14, 24), (14, 25), (14, 26)] [160, 161, 162, 163, 164, 165, 166, 167, 168, 169, 175, 176, 177, 178, 180, 182, 183, 184, 185, 186, 187, 188, 189, 190, 191, 192, 193, 194, 195, 196, 197, 198, 199, 200, 201, 202, 203, 204, 205, 206, 207, 208, 209, 210, 213, 214] f0 s.heap [] [(14, 2, a0_, .ref q0_), (14, 16, a0_, .int o_), (14, 25, a0_, .int op_), (14, 10, a0_, .int t_), (14, 17, a0_, .int me_), (14, 20, a0_, .int pa_)] := G3.start hP hD0 hWT hfx
  have hl := lv_entry ([.ref a0_]) (n := 4) (Nat.le_of_ble_eq_true rfl)
  rw [lg_entry_eq]
  generalize (lg_sl ([.ref a0_]) ++ List.replicate (4 - (lg_sl ([.ref a0_])).length) Slot.unset).toArray = ls at hl ⊢
  have hl : lv_has ls 4 [(0, .ref a0_)] := hl
  refine W_q (fun Q hQ => ?_)
  refine W_c0 (fun cl_0 hc_0 => ?_)
  have hck_0 : cl_0 ≤ K_ := by omega
  have hC_0 : cEq f0 a0_ (cF f0 a0_) := rfl
  have hm_0 : cF f0 a0_ ≤ 1202 := cF_le g ma0_ ka0_
  have hm_1 : -1 ≤ cF f0 a0_ := cF_ge g ma0_ ka0_
  have hki_0 : KI V_ δ_ o_.toNatClampNeg := hKI
  have ho7 : o_.toNatClampNeg < 8 ∧ (o_.toNatClampNeg : Int) = o_.toInt := by have h9 := bo_.1; have h8 := bo_.2; have h7 := tnZ h9; omega
  have hme := tnZ bme_.1
  obtain ⟨N_, hNN_1⟩ := isN.ex g ma0_ ka0_
  refine lv_aload_n hx hb dX14_readParam_0 rfl (lv_at hl 0 rfl) ?_
  refine lv_aload_n hx hb dX14_readParam_1 rfl (lv_at hl 0 rfl) ?_
  refine g_geti (C := RX14) (T := TX14) (N := 67) hx hb hts (mc_ inX14) hown hK g ma0_ ka0_ (by decide) rfl 6 (by decide) rfl (hts _ (List.mem_cons_of_mem _ t_2152)) (fun _ h9 => h9) rfl dX14_readParam_2 (fun x_2 bx_2 g => ?_)
  refine lv_iconst (v := 1) hx hb dX14_readParam_5 (by decide) ?_
  have kb_1 : bd 1 1 (1 : Int32) := ⟨by decide, by decide⟩
  refine lv_icmp_ne (tgt := 13) hx hb dX14_readParam_6 (by decide) (fun c_3 => ?_) (fun c_3 => ?_)
  · have fc_3 := neq_f c_3
    refine lv_iconst (v := 0) hx hb dX14_readParam_13 (by decide) ?_
    refine lv_iconst (v := 1) hx hb dX14_readParam_14 (by decide) ?_
    refine lv_aload_n hx hb dX14_readParam_15 rfl (lv_at hl 0 rfl) ?_
    refine g_geti (C := RX14) (T := TX14) (N := 67) hx hb hts (mc_ inX14) hown hK g ma0_ ka0_ (by decide) rfl 8 (by decide) rfl (hts _ (List.mem_cons_of_mem _ t_2154)) (fun _ h9 => h9) rfl dX14_readParam_16 (fun x_4 bx_4 g => ?_)
    have kb_0 : bd 0 0 (0 : Int32) := ⟨by decide, by decide⟩
    have go_ := g
    refine g_callEv (As := [.int 0, .int 1, .int x_4]) (rest := []) ⟨hx, hb, hml, hown, hts⟩ (r_X14_need_2 l dC dI L kd tys f0 s.heap.size g.2.2.2.1 a0_ ma0_ ka0_ 0 kb_0 1 x_4) (cwV 3 hts (gV_ t_2403 t_2405 t_100 t_198 t_2406) rfl rfl rfl (by decide +kernel) ⟨(Nat.le_of_ble_eq_true rfl), (Nat.le_of_ble_eq_true rfl)⟩) (pre3V g hK ma0_ ka0_ (by decide) (q := (RX14, TX14, 67)) rfl) rfl hl.1 rfl (lv_room (Nat.le_of_ble_eq_true rfl)) dX14_readParam_19 (cl_f hck_0) g hK (by decide) (by decide) (fx' := [(14, 8, a0_, .int x_4), (14, 6, a0_, .int x_2), (14, 2, a0_, .ref q0_), (14, 16, a0_, .int o_), (14, 25, a0_, .int op_), (14, 10, a0_, .int t_), (14, 17, a0_, .int me_), (14, 20, a0_, .int pa_)]) rfl (fun xr_5 fr_5 H locs mxr_5 kxr_5 hp hMr_5 g => ?_) (fun fr_5 H locs hp hMr_5 g => ?_)
    · have hG_6 := isV.frame hMr_5 go_.2.2.2.1 mq0_ kq0_ (by decide) (by decide) hV
      have hG_7 := FR.frame hMr_5 go_.2.2.2.1 mq0_ kq0_ (by decide) (by decide) FR.refl
      have hG_8 := cEq.frame hMr_5 go_.2.2.2.1 ma0_ ka0_ (by decide) (by decide) hC_0
      have hG_9 := isN.frame hMr_5 go_.2.2.2.1 ma0_ ka0_ (by decide) (by decide) hNN_1
      subst hQ
      exact leavesX hempty hlocks (fun t ht hW => g_thrZ g hK mxr_5 kxr_5 ⟨hG_7, (by omega)⟩ ht hW) g.2.2.1.2.2
    · exact hp.elim
  · have fc_3 := eq_f c_3
    have b_10 : bd 1 1 x_2 := eqX fc_3 bx_2 kb_1 (by decide)
    refine lv_iconst (v := 1) hx hb dX14_readParam_9 (by decide) ?_
    refine lv_goto (tgt := 14) hx hb dX14_readParam_10 (by decide) ?_
    refine lv_iconst (v := 1) hx hb dX14_readParam_14 (by decide) ?_
    refine lv_aload_n hx hb dX14_readParam_15 rfl (lv_at hl 0 rfl) ?_
    refine g_geti (C := RX14) (T := TX14) (N := 67) hx hb hts (mc_ inX14) hown hK g ma0_ ka0_ (by decide) rfl 8 (by decide) rfl (hts _ (List.mem_cons_of_mem _ t_2154)) (fun _ h9 => h9) rfl dX14_readParam_16 (fun x_11 bx_11 g => ?_)
    have hs_12 := sE_1 g 1 rfl (by have h9_0 := bme_; unfold bd at h9_0; have h9_1 := bo_; unfold bd at h9_1; have h9_2 := bop_; unfold bd at h9_2; have h9_3 := bpa_; unfold bd at h9_3; have h9_4 := bt_; unfold bd at h9_4; have h9_5 := bx_11; unfold bd at h9_5; have h9_6 := b_10; unfold bd at h9_6; have h8_0 := kb_1; unfold bd at h8_0; omega)
    have go_ := g
    refine g_callEv (As := [.int 1, .int 1, .int x_11]) (rest := []) ⟨hx, hb, hml, hown, hts⟩ (r_X14_need_3 l dC dI L kd tys f0 s.heap.size g.2.2.2.1 a0_ ma0_ ka0_ 1 kb_1 1 x_11) (cwV 3 hts (gV_ t_2403 t_2405 t_100 t_198 t_2406) rfl rfl rfl (by decide +kernel) ⟨(Nat.le_of_ble_eq_true rfl), (Nat.le_of_ble_eq_true rfl)⟩) (pre3V g hK ma0_ ka0_ (by decide) (q := (RX14, TX14, 67)) rfl) rfl hl.1 rfl (lv_room (Nat.le_of_ble_eq_true rfl)) dX14_readParam_19 (cl_f hck_0) g hK (by decide) (by decide) (fx' := [(14, 8, a0_, .int x_11), (14, 6, a0_, .int x_2), (14, 2, a0_, .ref q0_), (14, 16, a0_, .int o_), (14, 25, a0_, .int op_), (14, 10, a0_, .int t_), (14, 17, a0_, .int me_), (14, 20, a0_, .int pa_)]) rfl (fun xr_13 fr_13 H locs mxr_13 kxr_13 hp hMr_13 g => ?_) (fun fr_13 H locs hp hMr_13 g => ?_)
    · have hG_14 := isV.frame hMr_13 go_.2.2.2.1 mq0_ kq0_ (by decide) (by decide) hV
      have hG_15 := FR.frame hMr_13 go_.2.2.2.1 mq0_ kq0_ (by decide) (by decide) FR.refl
      have hG_16 := cEq.frame hMr_13 go_.2.2.2.1 ma0_ ka0_ (by decide) (by decide) hC_0
      have hG_17 := isN.frame hMr_13 go_.2.2.2.1 ma0_ ka0_ (by decide) (by decide) hNN_1
      exact hp.elim
    · have hG_18 := isV.frame hMr_13 go_.2.2.2.1 mq0_ kq0_ (by decide) (by decide) hV
      have hG_19 := FR.frame hMr_13 go_.2.2.2.1 mq0_ kq0_ (by decide) (by decide) FR.refl
      have hG_20 := cEq.frame hMr_13 go_.2.2.2.1 ma0_ ka0_ (by decide) (by decide) hC_0
      have hG_21 := isN.frame hMr_13 go_.2.2.2.1 ma0_ ka0_ (by decide) (by decide) hNN_1
      refine lv_aload_n hx hb dX14_readParam_22 rfl (lv_at hl 0 rfl) ?_
      refine lv_aload_n hx hb dX14_readParam_23 rfl (lv_at hl 0 rfl) ?_
      refine lv_aload_n hx hb dX14_readParam_24 rfl (lv_at hl 0 rfl) ?_
      refine g_getl (C := RX14) (T := TX14) (N := 67) hx hb hts (mc_ inX14) hown hK g ma0_ ka0_ (by decide) rfl 12 (by decide) rfl (hts _ (List.mem_cons_of_mem _ t_2158)) (fun _ h9 => h9) rfl dX14_readParam_25 (fun x_22 g => ?_)
      refine lv_aload_n hx hb dX14_readParam_28 rfl (lv_at hl 0 rfl) ?_
      refine g_getl (C := RX14) (T := TX14) (N := 67) hx hb hts (mc_ inX14) hown hK g ma0_ ka0_ (by decide) rfl 13 (by decide) rfl (hts _ (List.mem_cons_of_mem _ t_2159)) (fun _ h9 => h9) rfl dX14_readParam_29 (fun x_23 g => ?_)
      have hs_24 := sE_1 g 3 rfl (by have h9_0 := bme_; unfold bd at h9_0; have h9_1 := bo_; unfold bd at h9_1; have h9_2 := bop_; unfold bd at h9_2; have h9_3 := bpa_; unfold bd at h9_3; have h9_4 := bt_; unfold bd at h9_4; have h9_5 := bx_11; unfold bd at h9_5; have h9_6 := b_10; unfold bd at h9_6; have h8_0 := kb_1; unfold bd at h8_0; omega)
      have go_ := g
      refine g_calli (va_runV (As := [.long x_22, .long x_23]) (rest := [.ref a0_]) ⟨hx, hb, hml, hown, hts⟩ (r_X14_named_2 l dC dI L kd tys fr_13 H.size g.2.2.2.1 a0_ ma0_ ka0_ x_22 x_23 q0_ mq0_ kq0_ o_ bo_ V_ N_ hG_21 hG_18 (g.fcts [4, 5] rfl)) (cwV 2 hts (gV_ t_2504 t_2506 t_122 t_198 t_2507) rfl rfl rfl (by decide +kernel) ⟨(Nat.le_of_ble_eq_true rfl), (Nat.le_of_ble_eq_true rfl)⟩) (pre3V g hK ma0_ ka0_ (by decide) (q := (RX14, TX14, 67)) rfl) rfl rfl hl.1 rfl (lv_room (Nat.le_of_ble_eq_true rfl)) dX14_readParam_32 (cl_f hck_0)) g hK (by decide) (by decide) (fx' := [(14, 13, a0_, .long x_23), (14, 12, a0_, .long x_22), (14, 8, a0_, .int x_11), (14, 6, a0_, .int x_2), (14, 2, a0_, .ref q0_), (14, 16, a0_, .int o_), (14, 25, a0_, .int op_), (14, 10, a0_, .int t_), (14, 17, a0_, .int me_), (14, 20, a0_, .int pa_)]) rfl (fun r_25 fr_25 H locs hp hMr_25 g => ?_)
      obtain ⟨hx_26, -⟩ := hp
      have hG_27 := isV.frame hMr_25 go_.2.2.2.1 mq0_ kq0_ (by decide) (by decide) hG_18
      have hG_28 := FR.frame hMr_25 go_.2.2.2.1 mq0_ kq0_ (by decide) (by decide) hG_19
      have hG_29 := cEq.frame hMr_25 go_.2.2.2.1 ma0_ ka0_ (by decide) (by decide) hG_20
      have hG_30 := isN.frame hMr_25 go_.2.2.2.1 ma0_ ka0_ (by decide) (by decide) hG_21
      rcases hx_26 with ⟨h_31, hd_32⟩ | ⟨h_31 | h_31 | h_31, hd_32⟩
      · obtain rfl : r_25 = (-1) := Int32.toInt_inj.mp (h_31.trans (by decide))
        refine lv_iconst (v := (-1)) hx hb dX14_readParam_35 (by decide) ?_
        refine lv_icmp_ne (tgt := 43) hx hb dX14_readParam_36 (by decide) (fun c_ => absurd c_ (by decide)) (fun c_ => ?_)
        refine lv_iconst (v := 1) hx hb dX14_readParam_39 (by decide) ?_
        refine lv_goto (tgt := 44) hx hb dX14_readParam_40 (by decide) ?_
        refine lv_iconst (v := 2) hx hb dX14_readParam_44 (by decide) ?_
        refine lv_aload_n hx hb dX14_readParam_45 rfl (lv_at hl 0 rfl) ?_
        refine g_getk (C := RX14) (T := TX14) (N := 67) hx hb hts (mc_ inX14) hown hK g rfl 8 (by decide) rfl (hts _ (List.mem_cons_of_mem _ t_2154)) (fun _ h9 => h9) 2 rfl dX14_readParam_46 ?_
        have hs_33 := sE_1 g 3 rfl (by have h9_0 := bme_; unfold bd at h9_0; have h9_1 := bo_; unfold bd at h9_1; have h9_2 := bop_; unfold bd at h9_2; have h9_3 := bpa_; unfold bd at h9_3; have h9_4 := bt_; unfold bd at h9_4; have h9_5 := bx_11; unfold bd at h9_5; have h9_6 := b_10; unfold bd at h9_6; have h8_0 := kb_1; unfold bd at h8_0; omega)
        have go_ := g
        refine g_callEv (As := [.int 1, .int 2, .int x_11]) (rest := []) ⟨hx, hb, hml, hown, hts⟩ (r_X14_need_3 l dC dI L kd tys fr_25 H.size g.2.2.2.1 a0_ ma0_ ka0_ 1 kb_1 2 x_11) (cwV 3 hts (gV_ t_2403 t_2405 t_100 t_198 t_2406) rfl rfl rfl (by decide +kernel) ⟨(Nat.le_of_ble_eq_true rfl), (Nat.le_of_ble_eq_true rfl)⟩) (pre3V g hK ma0_ ka0_ (by decide) (q := (RX14, TX14, 67)) rfl) rfl hl.1 rfl (lv_room (Nat.le_of_ble_eq_true rfl)) dX14_readParam_49 (cl_f hck_0) g hK (by decide) (by decide) (fx' := [(14, 13, a0_, .long x_23), (14, 12, a0_, .long x_22), (14, 8, a0_, .int x_11), (14, 6, a0_, .int x_2), (14, 2, a0_, .ref q0_), (14, 16, a0_, .int o_), (14, 25, a0_, .int op_), (14, 10, a0_, .int t_), (14, 17, a0_, .int me_), (14, 20, a0_, .int pa_)]) rfl (fun xr_34 fr_34 H locs mxr_34 kxr_34 hp hMr_34 g => ?_) (fun fr_34 H locs hp hMr_34 g => ?_)
        · have hG_35 := isV.frame hMr_34 go_.2.2.2.1 mq0_ kq0_ (by decide) (by decide) hG_27
          have hG_36 := FR.frame hMr_34 go_.2.2.2.1 mq0_ kq0_ (by decide) (by decide) hG_28
          have hG_37 := cEq.frame hMr_34 go_.2.2.2.1 ma0_ ka0_ (by decide) (by decide) hG_29
          have hG_38 := isN.frame hMr_34 go_.2.2.2.1 ma0_ ka0_ (by decide) (by decide) hG_30
          exact hp.elim
        · have hG_39 := isV.frame hMr_34 go_.2.2.2.1 mq0_ kq0_ (by decide) (by decide) hG_27
          have hG_40 := FR.frame hMr_34 go_.2.2.2.1 mq0_ kq0_ (by decide) (by decide) hG_28
          have hG_41 := cEq.frame hMr_34 go_.2.2.2.1 ma0_ ka0_ (by decide) (by decide) hG_29
          have hG_42 := isN.frame hMr_34 go_.2.2.2.1 ma0_ ka0_ (by decide) (by decide) hG_30
          refine lv_aload_n hx hb dX14_readParam_52 rfl (lv_at hl 0 rfl) ?_
          refine lv_aload_n hx hb dX14_readParam_53 rfl (lv_at hl 0 rfl) ?_
          refine g_getk (C := RX14) (T := TX14) (N := 67) hx hb hts (mc_ inX14) hown hK g rfl 2 (by decide) rfl (hts _ (List.mem_cons_of_mem _ t_2148)) (fun _ h9 => h9) 4 rfl dX14_readParam_54 ?_
          refine g_getr (K := 175) (C := RX12) (T := TX12) (N := 60) hx hb hts (mc_ inX12) hown hK g mq0_ kq0_ (by decide) rfl 19 (by decide) rfl (hts _ (List.mem_cons_of_mem _ t_1944)) (fun _ h9 => h9) rfl dX14_readParam_57 (fun a_43 ma_43 ka_43 g => ?_)
          refine lv_aload_n hx hb dX14_readParam_60 rfl (lv_at hl 0 rfl) ?_
          refine g_getk (C := RX14) (T := TX14) (N := 67) hx hb hts (mc_ inX14) hown hK g rfl 17 (by decide) rfl (hts _ (List.mem_cons_of_mem _ t_2163)) (fun _ h9 => h9) 9 rfl dX14_readParam_61 ?_
          refine g_iald hx hb hK g ma_43 ka_43 (by decide) rfl (in_bd bme_ (by decide)) dX14_readParam_64 (fun x_44 bx_44 cx_44 => ?_)
          have vx_44 : x_44 = V_.i 19 me_.toNatClampNeg := hG_39.at g 0 rfl rfl cx_44
          obtain rfl : pa_ = x_44 := hpa.trans (show x_44 = V_.i 19 me_.toNatClampNeg from vx_44).symm
          refine lv_iconst (v := 3) hx hb dX14_readParam_65 (by decide) ?_
          have kb_3 : bd 3 3 (3 : Int32) := ⟨by decide, by decide⟩
          refine lv_icmp_ge (tgt := 73) hx hb dX14_readParam_66 (by decide) (fun c_45 => ?_) (fun c_45 => ?_)
          · have fc_45 := le_f c_45
            have b_46 : bd 3 3 pa_ := leR fc_45 kb_3 bpa_ (by decide)
            refine lv_iconst (v := 0) hx hb dX14_readParam_73 (by decide) ?_
            refine lv_iconst (v := 4) hx hb dX14_readParam_74 (by decide) ?_
            refine lv_aload_n hx hb dX14_readParam_75 rfl (lv_at hl 0 rfl) ?_
            refine g_getk (C := RX14) (T := TX14) (N := 67) hx hb hts (mc_ inX14) hown hK g rfl 8 (by decide) rfl (hts _ (List.mem_cons_of_mem _ t_2154)) (fun _ h9 => h9) 3 rfl dX14_readParam_76 ?_
            have hs_47 := sE_1 g 4 rfl (by have h9_0 := bme_; unfold bd at h9_0; have h9_1 := bo_; unfold bd at h9_1; have h9_2 := bop_; unfold bd at h9_2; have h9_3 := b_46; unfold bd at h9_3; have h9_4 := bt_; unfold bd at h9_4; have h9_5 := bx_11; unfold bd at h9_5; have h9_6 := b_10; unfold bd at h9_6; have h9_7 := bx_44; unfold bd at h9_7; have h8_0 := kb_1; unfold bd at h8_0; have h8_1 := kb_3; unfold bd at h8_1; omega)
            have kb_0 : bd 0 0 (0 : Int32) := ⟨by decide, by decide⟩
            have go_ := g
            refine g_callEv (As := [.int 0, .int 4, .int x_11]) (rest := []) ⟨hx, hb, hml, hown, hts⟩ (r_X14_need_2 l dC dI L kd tys fr_34 H.size g.2.2.2.1 a0_ ma0_ ka0_ 0 kb_0 4 x_11) (cwV 3 hts (gV_ t_2403 t_2405 t_100 t_198 t_2406) rfl rfl rfl (by decide +kernel) ⟨(Nat.le_of_ble_eq_true rfl), (Nat.le_of_ble_eq_true rfl)⟩) (pre3V g hK ma0_ ka0_ (by decide) (q := (RX14, TX14, 67)) rfl) rfl hl.1 rfl (lv_room (Nat.le_of_ble_eq_true rfl)) dX14_readParam_79 (cl_f hck_0) g hK (by decide) (by decide) (fx' := [(12, 19, q0_, .ref a_43), (14, 13, a0_, .long x_23), (14, 12, a0_, .long x_22), (14, 8, a0_, .int x_11), (14, 6, a0_, .int x_2), (14, 2, a0_, .ref q0_), (14, 16, a0_, .int o_), (14, 25, a0_, .int op_), (14, 10, a0_, .int t_), (14, 17, a0_, .int me_), (14, 20, a0_, .int pa_)]) rfl (fun xr_48 fr_48 H locs mxr_48 kxr_48 hp hMr_48 g => ?_) (fun fr_48 H locs hp hMr_48 g => ?_)
            · have hG_49 := isV.frame hMr_48 go_.2.2.2.1 mq0_ kq0_ (by decide) (by decide) hG_39
              have hG_50 := FR.frame hMr_48 go_.2.2.2.1 mq0_ kq0_ (by decide) (by decide) hG_40
              have hG_51 := cEq.frame hMr_48 go_.2.2.2.1 ma0_ ka0_ (by decide) (by decide) hG_41
              have hG_52 := isN.frame hMr_48 go_.2.2.2.1 ma0_ ka0_ (by decide) (by decide) hG_42
              subst hQ
              exact leavesX hempty hlocks (fun t ht hW => g_thrZ g hK mxr_48 kxr_48 ⟨hG_50, (by omega)⟩ ht hW) g.2.2.1.2.2
            · exact hp.elim
          · have fc_45 := nle_f c_45
            have b_53 : bd 0 2 pa_ := ltL fc_45 bpa_ kb_3 (by decide)
            refine lv_iconst (v := 1) hx hb dX14_readParam_69 (by decide) ?_
            refine lv_goto (tgt := 74) hx hb dX14_readParam_70 (by decide) ?_
            refine lv_iconst (v := 4) hx hb dX14_readParam_74 (by decide) ?_
            refine lv_aload_n hx hb dX14_readParam_75 rfl (lv_at hl 0 rfl) ?_
            refine g_getk (C := RX14) (T := TX14) (N := 67) hx hb hts (mc_ inX14) hown hK g rfl 8 (by decide) rfl (hts _ (List.mem_cons_of_mem _ t_2154)) (fun _ h9 => h9) 3 rfl dX14_readParam_76 ?_
            have hs_54 := sE_1 g 4 rfl (by have h9_0 := bme_; unfold bd at h9_0; have h9_1 := bo_; unfold bd at h9_1; have h9_2 := bop_; unfold bd at h9_2; have h9_3 := b_53; unfold bd at h9_3; have h9_4 := bt_; unfold bd at h9_4; have h9_5 := bx_11; unfold bd at h9_5; have h9_6 := b_10; unfold bd at h9_6; have h9_7 := bx_44; unfold bd at h9_7; have h8_0 := kb_1; unfold bd at h8_0; have h8_1 := kb_3; unfold bd at h8_1; omega)
            have go_ := g
            refine g_callEv (As := [.int 1, .int 4, .int x_11]) (rest := []) ⟨hx, hb, hml, hown, hts⟩ (r_X14_need_3 l dC dI L kd tys fr_34 H.size g.2.2.2.1 a0_ ma0_ ka0_ 1 kb_1 4 x_11) (cwV 3 hts (gV_ t_2403 t_2405 t_100 t_198 t_2406) rfl rfl rfl (by decide +kernel) ⟨(Nat.le_of_ble_eq_true rfl), (Nat.le_of_ble_eq_true rfl)⟩) (pre3V g hK ma0_ ka0_ (by decide) (q := (RX14, TX14, 67)) rfl) rfl hl.1 rfl (lv_room (Nat.le_of_ble_eq_true rfl)) dX14_readParam_79 (cl_f hck_0) g hK (by decide) (by decide) (fx' := [(12, 19, q0_, .ref a_43), (14, 13, a0_, .long x_23), (14, 12, a0_, .long x_22), (14, 8, a0_, .int x_11), (14, 6, a0_, .int x_2), (14, 2, a0_, .ref q0_), (14, 16, a0_, .int o_), (14, 25, a0_, .int op_), (14, 10, a0_, .int t_), (14, 17, a0_, .int me_), (14, 20, a0_, .int pa_)]) rfl (fun xr_55 fr_55 H locs mxr_55 kxr_55 hp hMr_55 g => ?_) (fun fr_55 H locs hp hMr_55 g => ?_)
            · have hG_56 := isV.frame hMr_55 go_.2.2.2.1 mq0_ kq0_ (by decide) (by decide) hG_39
              have hG_57 := FR.frame hMr_55 go_.2.2.2.1 mq0_ kq0_ (by decide) (by decide) hG_40
              have hG_58 := cEq.frame hMr_55 go_.2.2.2.1 ma0_ ka0_ (by decide) (by decide) hG_41
              have hG_59 := isN.frame hMr_55 go_.2.2.2.1 ma0_ ka0_ (by decide) (by decide) hG_42
              exact hp.elim
            · have hG_60 := isV.frame hMr_55 go_.2.2.2.1 mq0_ kq0_ (by decide) (by decide) hG_39
              have hG_61 := FR.frame hMr_55 go_.2.2.2.1 mq0_ kq0_ (by decide) (by decide) hG_40
              have hG_62 := cEq.frame hMr_55 go_.2.2.2.1 ma0_ ka0_ (by decide) (by decide) hG_41
              have hG_63 := isN.frame hMr_55 go_.2.2.2.1 ma0_ ka0_ (by decide) (by decide) hG_42
              refine lv_aload_n hx hb dX14_readParam_82 rfl (lv_at hl 0 rfl) ?_
              refine g_getr (K := 213) (C := RX14) (T := TX14) (N := 67) hx hb hts (mc_ inX14) hown hK g ma0_ ka0_ (by decide) rfl 18 (by decide) rfl (hts _ (List.mem_cons_of_mem _ t_2164)) (fun _ h9 => h9) rfl dX14_readParam_83 (fun a_64 ma_64 ka_64 g => ?_)
              refine lv_aload_n hx hb dX14_readParam_86 rfl (lv_at hl 0 rfl) ?_
              refine g_getk (C := RX14) (T := TX14) (N := 67) hx hb hts (mc_ inX14) hown hK g rfl 20 (by decide) rfl (hts _ (List.mem_cons_of_mem _ t_2166)) (fun _ h9 => h9) 11 rfl dX14_readParam_87 ?_
              refine lv_aload_n hx hb dX14_readParam_90 rfl (lv_at hl 0 rfl) ?_
              refine g_getk (C := RX14) (T := TX14) (N := 67) hx hb hts (mc_ inX14) hown hK g rfl 12 (by decide) rfl (hts _ (List.mem_cons_of_mem _ t_2158)) (fun _ h9 => h9) 3 rfl dX14_readParam_91 ?_
              have go_ := g
              refine g_last hx hb hK g ma_64 ka_64 (by decide) rfl (in_bd b_53 (by decide)) (by decide) dX14_readParam_94 (fun f H locs hM_65 g => ?_)
              have hG_66 := isV.frame hM_65 go_.2.2.2.1 mq0_ kq0_ (by decide) (by decide) hG_60
              have hG_67 := FR.frame hM_65 go_.2.2.2.1 mq0_ kq0_ (by decide) (by decide) hG_61
              have hG_68 := cEq.frame hM_65 go_.2.2.2.1 ma0_ ka0_ (by decide) (by decide) hG_62
              refine lv_aload_n hx hb dX14_readParam_95 rfl (lv_at hl 0 rfl) ?_
              refine g_getr (K := 214) (C := RX14) (T := TX14) (N := 67) hx hb hts (mc_ inX14) hown hK g ma0_ ka0_ (by decide) rfl 19 (by decide) rfl (hts _ (List.mem_cons_of_mem _ t_2165)) (fun _ h9 => h9) rfl dX14_readParam_96 (fun a_69 ma_69 ka_69 g => ?_)
              refine lv_aload_n hx hb dX14_readParam_99 rfl (lv_at hl 0 rfl) ?_
              refine g_getk (C := RX14) (T := TX14) (N := 67) hx hb hts (mc_ inX14) hown hK g rfl 20 (by decide) rfl (hts _ (List.mem_cons_of_mem _ t_2166)) (fun _ h9 => h9) 12 rfl dX14_readParam_100 ?_
              refine lv_aload_n hx hb dX14_readParam_103 rfl (lv_at hl 0 rfl) ?_
              refine g_getk (C := RX14) (T := TX14) (N := 67) hx hb hts (mc_ inX14) hown hK g rfl 13 (by decide) rfl (hts _ (List.mem_cons_of_mem _ t_2159)) (fun _ h9 => h9) 3 rfl dX14_readParam_104 ?_
              have go_ := g
              refine g_last hx hb hK g ma_69 ka_69 (by decide) rfl (in_bd b_53 (by decide)) (by decide) dX14_readParam_107 (fun f H locs hM_70 g => ?_)
              have hG_71 := isV.frame hM_70 go_.2.2.2.1 mq0_ kq0_ (by decide) (by decide) hG_66
              have hG_72 := FR.frame hM_70 go_.2.2.2.1 mq0_ kq0_ (by decide) (by decide) hG_67
              have hG_73 := cEq.frame hM_70 go_.2.2.2.1 ma0_ ka0_ (by decide) (by decide) hG_68
              refine lv_aload_n hx hb dX14_readParam_108 rfl (lv_at hl 0 rfl) ?_
              have hs_74 := sE_1 g 6 rfl (by have h9_0 := bme_; unfold bd at h9_0; have h9_1 := bo_; unfold bd at h9_1; have h9_2 := bop_; unfold bd at h9_2; have h9_3 := b_53; unfold bd at h9_3; have h9_4 := bt_; unfold bd at h9_4; have h9_5 := bx_11; unfold bd at h9_5; have h9_6 := b_10; unfold bd at h9_6; have h9_7 := bx_44; unfold bd at h9_7; have h8_0 := kb_1; unfold bd at h8_0; have h8_1 := kb_3; unfold bd at h8_1; omega)
              have go_ := g
              refine g_callEv (As := []) (rest := []) ⟨hx, hb, hml, hown, hts⟩ (r_X14_next_2 l dC dI L kd tys f H.size g.2.2.2.1 adK adV a0_ ma0_ ka0_ t_ bt_ (g.fcts [10] rfl)) (cwV 0 hts (gV_ t_2411 t_2413 t_102 t_198 t_2414) rfl rfl rfl (by decide +kernel) ⟨(Nat.le_of_ble_eq_true rfl), (Nat.le_of_ble_eq_true rfl)⟩) (pre3VA g hK hAm ma0_ ka0_ (by decide) (q := (RX14, TX14, 67)) rfl) rfl hl.1 rfl (lv_room (Nat.le_of_ble_eq_true rfl)) dX14_readParam_109 (cl_f hck_0) g hK (by decide) (by decide) (fx' := [(14, 19, a0_, .ref a_69), (14, 18, a0_, .ref a_64), (12, 19, q0_, .ref a_43), (14, 2, a0_, .ref q0_), (14, 16, a0_, .int o_), (14, 25, a0_, .int op_), (14, 17, a0_, .int me_), (14, 20, a0_, .int pa_)]) rfl (fun xr_75 fr_75 H locs mxr_75 kxr_75 hp hMr_75 g => ?_) (fun fr_75 H locs hp hMr_75 g => ?_)
              · have hG_76 := isV.frame hMr_75 go_.2.2.2.1 mq0_ kq0_ (by decide) (by decide) hG_71
                have hG_77 := FR.frame hMr_75 go_.2.2.2.1 mq0_ kq0_ (by decide) (by decide) hG_72
                subst hQ
                exact leavesX hempty hlocks (fun t ht hW => g_thrZ g hK mxr_75 kxr_75 ⟨hG_77, (by omega)⟩ ht hW) g.2.2.1.2.2
              · obtain ⟨hx_78, h_79, x_80, h_81, hF_82⟩ := hp
                have hG_83 := isV.frame hMr_75 go_.2.2.2.1 mq0_ kq0_ (by decide) (by decide) hG_71
                have hG_84 := FR.frame hMr_75 go_.2.2.2.1 mq0_ kq0_ (by decide) (by decide) hG_72
                obtain ⟨E_85, hE_85⟩ : ∃ E : Int, cEq fr_75 a0_ E := ⟨_, rfl⟩
                have mxE_85 : E_85 ≤ 1202 := by have h9 := cF_le g ma0_ ka0_; have h8 : cF _ _ = _ := hE_85; omega
                have lE_85 : (cF f0 a0_) + 1 ≤ E_85 := by have h9 := hx_78; have h8 : cF _ _ = _ := hE_85; have h7 : cF _ _ = _ := hG_73; have h6 := hs_74; have h5 := tk_c (f := f) (t := a0_); omega
                have b_86 : bd 0 1200 t_ := eqX rfl bt_ h_79 (by decide)
                have g := g.more hF_82
                refine lv_aload_n hx hb dX14_readParam_112 rfl (lv_at hl 0 rfl) ?_
                refine lv_iconst (v := 5) hx hb dX14_readParam_113 (by decide) ?_
                have go_ := g
                refine g_callEv (As := [.int 5]) (rest := []) ⟨hx, hb, hml, hown, hts⟩ (r_X14_word_2 l dC dI L kd tys fr_75 H.size g.2.2.2.1 adK adV a0_ ma0_ ka0_ 5 x_80 h_81 (g.fcts [0] rfl)) (cwV 1 hts (gV_ t_2395 t_2397 t_98 t_198 t_2398) rfl rfl rfl (by decide +kernel) ⟨(Nat.le_of_ble_eq_true rfl), (Nat.le_of_ble_eq_true rfl)⟩) (pre3VA g hK hAm ma0_ ka0_ (by decide) (q := (RX14, TX14, 67)) rfl) rfl hl.1 rfl (lv_room (Nat.le_of_ble_eq_true rfl)) dX14_readParam_114 (cl_f hck_0) g hK (by decide) (by decide) (fx' := [(14, 19, a0_, .ref a_69), (14, 18, a0_, .ref a_64), (12, 19, q0_, .ref a_43), (14, 2, a0_, .ref q0_), (14, 16, a0_, .int o_), (14, 25, a0_, .int op_), (14, 17, a0_, .int me_), (14, 20, a0_, .int pa_)]) rfl (fun xr_87 fr_87 H locs mxr_87 kxr_87 hp hMr_87 g => ?_) (fun fr_87 H locs hp hMr_87 g => ?_)
                · have hG_88 := isV.frame hMr_87 go_.2.2.2.1 mq0_ kq0_ (by decide) (by decide) hG_83
                  have hG_89 := FR.frame hMr_87 go_.2.2.2.1 mq0_ kq0_ (by decide) (by decide) hG_84
                  subst hQ
                  exact leavesX hempty hlocks (fun t ht hW => g_thrZ g hK mxr_87 kxr_87 ⟨hG_89, (by omega)⟩ ht hW) g.2.2.1.2.2
                · obtain ⟨hx_90, h_91, x_92, h_93, hF_94⟩ := hp
                  have hG_95 := isV.frame hMr_87 go_.2.2.2.1 mq0_ kq0_ (by decide) (by decide) hG_83
                  have hG_96 := FR.frame hMr_87 go_.2.2.2.1 mq0_ kq0_ (by decide) (by decide) hG_84
                  obtain ⟨E_97, hE_97⟩ : ∃ E : Int, cEq fr_87 a0_ E := ⟨_, rfl⟩
                  have mxE_97 : E_97 ≤ 1202 := by have h9 := cF_le g ma0_ ka0_; have h8 : cF _ _ = _ := hE_97; omega
                  have lE_97 : E_85 + 1 ≤ E_97 := by have h9 := hx_90; have h8 : cF _ _ = _ := hE_97; have h7 : cF _ _ = _ := hE_85; omega
                  have b_98 : bd 0 1200 x_80 := eqX rfl h_81 h_91 (by decide)
                  have g := g.more hF_94
                  refine lv_iconst (v := 3) hx hb dX14_readParam_117 (by decide) ?_
                  refine lv_aload_n hx hb dX14_readParam_118 rfl (lv_at hl 0 rfl) ?_
                  refine g_getk (C := RX14) (T := TX14) (N := 67) hx hb hts (mc_ inX14) hown hK g rfl 17 (by decide) rfl (hts _ (List.mem_cons_of_mem _ t_2163)) (fun _ h9 => h9) 7 rfl dX14_readParam_119 ?_
                  refine lv_imul hx hb dX14_readParam_122 ?_
                  refine lv_topi (fun y_99 ey_99 => ?_)
                  have ty_99 := cmul_bd ey_99 (c := 3) (by decide) bme_ (by decide)
                  have b_100 : bd 0 327 y_99 := mulc_rg ty_99 bme_ (by decide)
                  refine lv_aload_n hx hb dX14_readParam_123 rfl (lv_at hl 0 rfl) ?_
                  refine g_getk (C := RX14) (T := TX14) (N := 67) hx hb hts (mc_ inX14) hown hK g rfl 20 (by decide) rfl (hts _ (List.mem_cons_of_mem _ t_2166)) (fun _ h9 => h9) 8 rfl dX14_readParam_124 ?_
                  refine lv_iadd hx hb dX14_readParam_127 ?_
                  refine lv_topi (fun y_101 ey_101 => ?_)
                  have ty_101 := add_bd ey_101 b_100 b_53 (by decide)
                  have b_102 : bd 0 329 y_101 := add_rg ty_101 b_100 b_53 (by decide)
                  refine lv_istore_n (lv' := [(1, .int y_101), (0, .ref a0_)]) hx hb dX14_readParam_128 rfl hl (by decide) rfl (fun ls hl => ?_)
                  refine lv_aload_n hx hb dX14_readParam_129 rfl (lv_at hl 1 rfl) ?_
                  refine g_getk (C := RX14) (T := TX14) (N := 67) hx hb hts (mc_ inX14) hown hK g rfl 2 (by decide) rfl (hts _ (List.mem_cons_of_mem _ t_2148)) (fun _ h9 => h9) 4 rfl dX14_readParam_130 ?_
                  refine g_getr (K := 176) (C := RX12) (T := TX12) (N := 60) hx hb hts (mc_ inX12) hown hK g mq0_ kq0_ (by decide) rfl 20 (by decide) rfl (hts _ (List.mem_cons_of_mem _ t_1946)) (fun _ h9 => h9) rfl dX14_readParam_133 (fun a_103 ma_103 ka_103 g => ?_)
                  refine lv_iload_n hx hb dX14_readParam_136 rfl (lv_at hl 0 rfl) ?_
                  refine lv_aload_n hx hb dX14_readParam_137 rfl (lv_at hl 1 rfl) ?_
                  have go_ := g
                  refine g_callEi (As := []) (rest := [.int y_101, .ref a_103]) ⟨hx, hb, hml, hown, hts⟩ (r_X14_numHere_2 l dC dI L kd tys fr_87 H.size g.2.2.2.1 adK adV a0_ ma0_ ka0_ x_92 h_93 (g.fcts [1] rfl)) (cwV 0 hts (gV_ t_2452 t_2454 t_110 t_198 t_2455) rfl rfl rfl (by decide +kernel) ⟨(Nat.le_of_ble_eq_true rfl), (Nat.le_of_ble_eq_true rfl)⟩) (pre3VA g hK hAm ma0_ ka0_ (by decide) (q := (RX14, TX14, 67)) rfl) rfl hl.1 rfl (lv_room (Nat.le_of_ble_eq_true rfl)) dX14_readParam_138 (cl_f hck_0) g hK (by decide) (by decide) (fx' := [(12, 20, q0_, .ref a_103), (14, 19, a0_, .ref a_69), (14, 18, a0_, .ref a_64), (12, 19, q0_, .ref a_43), (14, 2, a0_, .ref q0_), (14, 16, a0_, .int o_), (14, 25, a0_, .int op_), (14, 17, a0_, .int me_), (14, 20, a0_, .int pa_)]) rfl (fun xr_104 fr_104 H locs mxr_104 kxr_104 hp hMr_104 g => ?_) (fun r_104 fr_104 H locs hp hMr_104 g => ?_)
                  · have hG_105 := isV.frame hMr_104 go_.2.2.2.1 mq0_ kq0_ (by decide) (by decide) hG_95
                    have hG_106 := FR.frame hMr_104 go_.2.2.2.1 mq0_ kq0_ (by decide) (by decide) hG_96
                    subst hQ
                    exact leavesX hempty hlocks (fun t ht hW => g_thrZ g hK mxr_104 kxr_104 ⟨hG_106, (by omega)⟩ ht hW) g.2.2.1.2.2
                  · obtain ⟨hx_107, h_108, x_109, h_110, hF_111⟩ := hp
                    have hG_112 := isV.frame hMr_104 go_.2.2.2.1 mq0_ kq0_ (by decide) (by decide) hG_95
                    have hG_113 := FR.frame hMr_104 go_.2.2.2.1 mq0_ kq0_ (by decide) (by decide) hG_96
                    obtain ⟨E_114, hE_114⟩ : ∃ E : Int, cEq fr_104 a0_ E := ⟨_, rfl⟩
                    have mxE_114 : E_114 ≤ 1202 := by have h9 := cF_le g ma0_ ka0_; have h8 : cF _ _ = _ := hE_114; omega
                    have lE_114 : E_97 + 1 ≤ E_114 := by have h9 := hx_107; have h8 : cF _ _ = _ := hE_114; have h7 : cF _ _ = _ := hE_97; omega
                    have b_115 : bd 0 1200 x_92 := eqX rfl h_93 h_108 (by decide)
                    have g := g.more hF_111
                    have hb_116 : ∀ m : Nat, m < 110 → (V_.i 19 m).toInt ≤ 3 := (fun c hc => (isV.rng hG_112 g mq0_ kq0_ (j := 19) (K := 175) (by decide) rfl (by decide) rfl hc).2)
                    have gp_117 := g
                    have go_ := g
                    refine g_iastX hx hb hK g ma_103 ka_103 (by decide) rfl (in_bd b_102 (by decide)) (bdT r_104) (by decide) dX14_readParam_141 (fun f H locs hM_118 u_120 g => ?_)
                    have hG_119 := cEq.frame hM_118 go_.2.2.2.1 ma0_ ka0_ (by decide) (by decide) hE_114
                    have hV_121 := isV.ui hG_112 gp_117 1 rfl mq0_ kq0_ rfl u_120
                    have hF_122 := FR.arr hG_113 gp_117 1 rfl mq0_ kq0_ rfl rfl u_120.1
                    have hki_123 : KI (V_.ui 20 y_101.toNatClampNeg r_104) δ_ o_.toNatClampNeg := KI.par hki_0 (by decide) hb_116 (by show 3 * (V_.n 27).toInt ≤ _; rw [tnZ (by have h9_0 := bme_; unfold bd at h9_0; have h9_1 := bo_; unfold bd at h9_1; have h9_2 := bop_; unfold bd at h9_2; have h9_3 := b_53; unfold bd at h9_3; have h9_4 := b_86; unfold bd at h9_4; have h9_5 := h_110; unfold bd at h9_5; have h9_6 := bx_11; unfold bd at h9_6; have h9_7 := b_10; unfold bd at h9_7; have h9_8 := bx_44; unfold bd at h9_8; have h9_9 := b_98; unfold bd at h9_9; have h9_10 := b_115; unfold bd at h9_10; have h9_11 := b_102; unfold bd at h9_11; have h9_12 := b_100; unfold bd at h9_12; have h8_0 := kb_1; unfold bd at h8_0; have h8_1 := kb_3; unfold bd at h8_1; omega)]; have h9_0 := bme_; unfold bd at h9_0; have h9_1 := bo_; unfold bd at h9_1; have h9_2 := bop_; unfold bd at h9_2; have h9_3 := b_53; unfold bd at h9_3; have h9_4 := b_86; unfold bd at h9_4; have h9_5 := h_110; unfold bd at h9_5; have h9_6 := bx_11; unfold bd at h9_6; have h9_7 := b_10; unfold bd at h9_7; have h9_8 := bx_44; unfold bd at h9_8; have h9_9 := b_98; unfold bd at h9_9; have h9_10 := b_115; unfold bd at h9_10; have h9_11 := b_102; unfold bd at h9_11; have h9_12 := b_100; unfold bd at h9_12; have h8_0 := kb_1; unfold bd at h8_0; have h8_1 := kb_3; unfold bd at h8_1; omega)
                    have q_124 : (V_.ui 20 y_101.toNatClampNeg r_104).i 20 y_101.toNatClampNeg = r_104 := ui_same
                    refine lv_aload_n hx hb dX14_readParam_142 rfl (lv_at hl 1 rfl) ?_
                    refine lv_sipush (v := 11822) hx hb dX14_readParam_143 (by decide) ?_
                    have go_ := g
                    refine g_callEv (As := [.int 11822]) (rest := []) ⟨hx, hb, hml, hown, hts⟩ (r_X14_sign_2 l dC dI L kd tys f H.size g.2.2.2.1 adK adV a0_ ma0_ ka0_ 11822 x_109 h_110 (g.fcts [0] rfl)) (cwV 1 hts (gV_ t_2431 t_2433 t_107 t_198 t_2434) rfl rfl rfl (by decide +kernel) ⟨(Nat.le_of_ble_eq_true rfl), (Nat.le_of_ble_eq_true rfl)⟩) (pre3VA g hK hAm ma0_ ka0_ (by decide) (q := (RX14, TX14, 67)) rfl) rfl hl.1 rfl (lv_room (Nat.le_of_ble_eq_true rfl)) dX14_readParam_146 (cl_f hck_0) g hK (by decide) (by decide) (fx' := [(12, 20, q0_, .ref a_103), (14, 19, a0_, .ref a_69), (14, 18, a0_, .ref a_64), (12, 19, q0_, .ref a_43), (14, 2, a0_, .ref q0_), (14, 16, a0_, .int o_), (14, 25, a0_, .int op_), (14, 17, a0_, .int me_), (14, 20, a0_, .int pa_)]) rfl (fun xr_125 fr_125 H locs mxr_125 kxr_125 hp hMr_125 g => ?_) (fun fr_125 H locs hp hMr_125 g => ?_)
                    · have hG_126 := isV.frame hMr_125 go_.2.2.2.1 mq0_ kq0_ (by decide) (by decide) hV_121
                      have hG_127 := FR.frame hMr_125 go_.2.2.2.1 mq0_ kq0_ (by decide) (by decide) hF_122
                      subst hQ
                      exact leavesX hempty hlocks (fun t ht hW => g_thrZ g hK mxr_125 kxr_125 ⟨hG_127, (by omega)⟩ ht hW) g.2.2.1.2.2
                    · obtain ⟨hx_128, h_129, x_130, h_131, hF_132⟩ := hp
                      have hG_133 := isV.frame hMr_125 go_.2.2.2.1 mq0_ kq0_ (by decide) (by decide) hV_121
                      have hG_134 := FR.frame hMr_125 go_.2.2.2.1 mq0_ kq0_ (by decide) (by decide) hF_122
                      obtain ⟨E_135, hE_135⟩ : ∃ E : Int, cEq fr_125 a0_ E := ⟨_, rfl⟩
                      have mxE_135 : E_135 ≤ 1202 := by have h9 := cF_le g ma0_ ka0_; have h8 : cF _ _ = _ := hE_135; omega
                      have lE_135 : E_114 + 1 ≤ E_135 := by have h9 := hx_128; have h8 : cF _ _ = _ := hE_135; have h7 : cF _ _ = _ := hG_119; omega
                      have b_136 : bd 0 1200 x_109 := eqX rfl h_110 h_129 (by decide)
                      have g := g.more hF_132
                      refine lv_aload_n hx hb dX14_readParam_149 rfl (lv_at hl 1 rfl) ?_
                      refine lv_bipush (v := 45) hx hb dX14_readParam_150 (by decide) ?_
                      have go_ := g
                      refine g_calli (va_runV (As := [.int 45]) (rest := []) ⟨hx, hb, hml, hown, hts⟩ (r_X14_isSign l dC dI L kd tys fr_125 H.size g.2.2.2.1 a0_ ma0_ ka0_ 45) (cwV 1 hts (gV_ t_2435 t_2437 t_108 t_198 t_2438) rfl rfl rfl (by decide +kernel) ⟨(Nat.le_of_ble_eq_true rfl), (Nat.le_of_ble_eq_true rfl)⟩) (pre3V g hK ma0_ ka0_ (by decide) (q := (RX14, TX14, 67)) rfl) rfl rfl hl.1 rfl (lv_room (Nat.le_of_ble_eq_true rfl)) dX14_readParam_152 (cl_f hck_0)) g hK (by decide) (by decide) (fx' := [(14, 10, a0_, .int x_130), (12, 20, q0_, .ref a_103), (14, 19, a0_, .ref a_69), (14, 18, a0_, .ref a_64), (12, 19, q0_, .ref a_43), (14, 2, a0_, .ref q0_), (14, 16, a0_, .int o_), (14, 25, a0_, .int op_), (14, 17, a0_, .int me_), (14, 20, a0_, .int pa_)]) rfl (fun r_137 fr_137 H locs hp hMr_137 g => ?_)
                      rcases hp with ⟨h_138, -⟩ | ⟨h_139, x_140, h_141, hF_142⟩
                      · have hG_143 := isV.frame hMr_137 go_.2.2.2.1 mq0_ kq0_ (by decide) (by decide) hG_133
                        have hG_144 := FR.frame hMr_137 go_.2.2.2.1 mq0_ kq0_ (by decide) (by decide) hG_134
                        have hG_145 := cEq.frame hMr_137 go_.2.2.2.1 ma0_ ka0_ (by decide) (by decide) hE_135
                        obtain rfl : r_137 = 0 := h_138
                        refine lv_istore_n (lv' := [(2, .int 0), (1, .int y_101), (0, .ref a0_)]) hx hb dX14_readParam_155 rfl hl (by decide) rfl (fun ls hl => ?_)
                        refine lv_iload_n hx hb dX14_readParam_156 rfl (lv_at hl 0 rfl) ?_
                        refine lv_if_eq (tgt := 164) hx hb dX14_readParam_157 (by decide) (fun c_ => ?_) (fun c_ => absurd (by decide) c_)
                        refine lv_aload_n hx hb dX14_readParam_164 rfl (lv_at hl 2 rfl) ?_
                        refine lv_aload_n hx hb dX14_readParam_165 rfl (lv_at hl 2 rfl) ?_
                        refine g_geti (C := RX14) (T := TX14) (N := 67) hx hb hts (mc_ inX14) hown hK g ma0_ ka0_ (by decide) rfl 6 (by decide) rfl (hts _ (List.mem_cons_of_mem _ t_2152)) (fun _ h9 => h9) rfl dX14_readParam_166 (fun x_146 bx_146 g => ?_)
                        refine lv_iconst (v := 3) hx hb dX14_readParam_169 (by decide) ?_
                        refine lv_icmp_ne (tgt := 177) hx hb dX14_readParam_170 (by decide) (fun c_147 => ?_) (fun c_147 => ?_)
                        · have fc_147 := neq_f c_147
                          refine lv_iconst (v := 0) hx hb dX14_readParam_177 (by decide) ?_
                          refine lv_iconst (v := 1) hx hb dX14_readParam_178 (by decide) ?_
                          refine lv_aload_n hx hb dX14_readParam_179 rfl (lv_at hl 2 rfl) ?_
                          refine g_geti (C := RX14) (T := TX14) (N := 67) hx hb hts (mc_ inX14) hown hK g ma0_ ka0_ (by decide) rfl 8 (by decide) rfl (hts _ (List.mem_cons_of_mem _ t_2154)) (fun _ h9 => h9) rfl dX14_readParam_180 (fun x_148 bx_148 g => ?_)
                          have kb_0 : bd 0 0 (0 : Int32) := ⟨by decide, by decide⟩
                          have go_ := g
                          refine g_callEv (As := [.int 0, .int 1, .int x_148]) (rest := []) ⟨hx, hb, hml, hown, hts⟩ (r_X14_need_2 l dC dI L kd tys fr_137 H.size g.2.2.2.1 a0_ ma0_ ka0_ 0 kb_0 1 x_148) (cwV 3 hts (gV_ t_2403 t_2405 t_100 t_198 t_2406) rfl rfl rfl (by decide +kernel) ⟨(Nat.le_of_ble_eq_true rfl), (Nat.le_of_ble_eq_true rfl)⟩) (pre3V g hK ma0_ ka0_ (by decide) (q := (RX14, TX14, 67)) rfl) rfl hl.1 rfl (lv_room (Nat.le_of_ble_eq_true rfl)) dX14_readParam_183 (cl_f hck_0) g hK (by decide) (by decide) (fx' := [(14, 8, a0_, .int x_148), (14, 6, a0_, .int x_146), (14, 10, a0_, .int x_130), (12, 20, q0_, .ref a_103), (14, 19, a0_, .ref a_69), (14, 18, a0_, .ref a_64), (12, 19, q0_, .ref a_43), (14, 2, a0_, .ref q0_), (14, 16, a0_, .int o_), (14, 25, a0_, .int op_), (14, 17, a0_, .int me_), (14, 20, a0_, .int pa_)]) rfl (fun xr_149 fr_149 H locs mxr_149 kxr_149 hp hMr_149 g => ?_) (fun fr_149 H locs hp hMr_149 g => ?_)
                          · have hG_150 := isV.frame hMr_149 go_.2.2.2.1 mq0_ kq0_ (by decide) (by decide) hG_143
                            have hG_151 := FR.frame hMr_149 go_.2.2.2.1 mq0_ kq0_ (by decide) (by decide) hG_144
                            have hG_152 := cEq.frame hMr_149 go_.2.2.2.1 ma0_ ka0_ (by decide) (by decide) hG_145
                            subst hQ
                            exact leavesX hempty hlocks (fun t ht hW => g_thrZ g hK mxr_149 kxr_149 ⟨hG_151, (by omega)⟩ ht hW) g.2.2.1.2.2
                          · exact hp.elim
                        · have fc_147 := eq_f c_147
                          have b_153 : bd 3 3 x_146 := eqX fc_147 bx_146 kb_3 (by decide)
                          refine lv_iconst (v := 1) hx hb dX14_readParam_173 (by decide) ?_
                          refine lv_goto (tgt := 178) hx hb dX14_readParam_174 (by decide) ?_
                          refine lv_iconst (v := 1) hx hb dX14_readParam_178 (by decide) ?_
                          refine lv_aload_n hx hb dX14_readParam_179 rfl (lv_at hl 2 rfl) ?_
                          refine g_geti (C := RX14) (T := TX14) (N := 67) hx hb hts (mc_ inX14) hown hK g ma0_ ka0_ (by decide) rfl 8 (by decide) rfl (hts _ (List.mem_cons_of_mem _ t_2154)) (fun _ h9 => h9) rfl dX14_readParam_180 (fun x_154 bx_154 g => ?_)
                          have hs_155 := sE_1 g 1 rfl (by have h9_0 := bme_; unfold bd at h9_0; have h9_1 := bo_; unfold bd at h9_1; have h9_2 := bop_; unfold bd at h9_2; have h9_3 := b_53; unfold bd at h9_3; have h9_4 := b_86; unfold bd at h9_4; have h9_5 := b_136; unfold bd at h9_5; have h9_6 := bx_11; unfold bd at h9_6; have h9_7 := h_131; unfold bd at h9_7; have h9_8 := b_153; unfold bd at h9_8; have h9_9 := bx_154; unfold bd at h9_9; have h9_10 := b_10; unfold bd at h9_10; have h9_11 := bx_44; unfold bd at h9_11; have h9_12 := b_98; unfold bd at h9_12; have h9_13 := b_115; unfold bd at h9_13; have h9_14 := b_102; unfold bd at h9_14; have h9_15 := b_100; unfold bd at h9_15; have h8_0 := kb_1; unfold bd at h8_0; have h8_1 := kb_3; unfold bd at h8_1; omega)
                          have go_ := g
                          refine g_callEv (As := [.int 1, .int 1, .int x_154]) (rest := []) ⟨hx, hb, hml, hown, hts⟩ (r_X14_need_3 l dC dI L kd tys fr_137 H.size g.2.2.2.1 a0_ ma0_ ka0_ 1 kb_1 1 x_154) (cwV 3 hts (gV_ t_2403 t_2405 t_100 t_198 t_2406) rfl rfl rfl (by decide +kernel) ⟨(Nat.le_of_ble_eq_true rfl), (Nat.le_of_ble_eq_true rfl)⟩) (pre3V g hK ma0_ ka0_ (by decide) (q := (RX14, TX14, 67)) rfl) rfl hl.1 rfl (lv_room (Nat.le_of_ble_eq_true rfl)) dX14_readParam_183 (cl_f hck_0) g hK (by decide) (by decide) (fx' := [(14, 8, a0_, .int x_154), (14, 6, a0_, .int x_146), (14, 10, a0_, .int x_130), (12, 20, q0_, .ref a_103), (14, 19, a0_, .ref a_69), (14, 18, a0_, .ref a_64), (12, 19, q0_, .ref a_43), (14, 2, a0_, .ref q0_), (14, 16, a0_, .int o_), (14, 25, a0_, .int op_), (14, 17, a0_, .int me_), (14, 20, a0_, .int pa_)]) rfl (fun xr_156 fr_156 H locs mxr_156 kxr_156 hp hMr_156 g => ?_) (fun fr_156 H locs hp hMr_156 g => ?_)
                          · have hG_157 := isV.frame hMr_156 go_.2.2.2.1 mq0_ kq0_ (by decide) (by decide) hG_143
                            have hG_158 := FR.frame hMr_156 go_.2.2.2.1 mq0_ kq0_ (by decide) (by decide) hG_144
                            have hG_159 := cEq.frame hMr_156 go_.2.2.2.1 ma0_ ka0_ (by decide) (by decide) hG_145
                            exact hp.elim
                          · have hG_160 := isV.frame hMr_156 go_.2.2.2.1 mq0_ kq0_ (by decide) (by decide) hG_143
                            have hG_161 := FR.frame hMr_156 go_.2.2.2.1 mq0_ kq0_ (by decide) (by decide) hG_144
                            have hG_162 := cEq.frame hMr_156 go_.2.2.2.1 ma0_ ka0_ (by decide) (by decide) hG_145
                            refine lv_iload_n hx hb dX14_readParam_186 rfl (lv_at hl 0 rfl) ?_
                            refine lv_if_eq (tgt := 198) hx hb dX14_readParam_187 (by decide) (fun c_ => ?_) (fun c_ => absurd (by decide) c_)
                            refine lv_aload_n hx hb dX14_readParam_198 rfl (lv_at hl 2 rfl) ?_
                            refine g_getl (C := RX14) (T := TX14) (N := 67) hx hb hts (mc_ inX14) hown hK g ma0_ ka0_ (by decide) rfl 11 (by decide) rfl (hts _ (List.mem_cons_of_mem _ t_2157)) (fun _ h9 => h9) rfl dX14_readParam_199 (fun x_163 g => ?_)
                            refine lv_l2i hx hb dX14_readParam_202 rfl ?_
                            refine lv_topi (fun y_164 ey_164 => ?_)
                            refine lv_istore_n (lv' := [(3, .int y_164), (2, .int 0), (1, .int y_101), (0, .ref a0_)]) hx hb dX14_readParam_203 rfl hl (by decide) rfl (fun ls hl => ?_)
                            refine lv_aload_n hx hb dX14_readParam_204 rfl (lv_at hl 3 rfl) ?_
                            refine lv_iload_n hx hb dX14_readParam_205 rfl (lv_at hl 0 rfl) ?_
                            refine lv_aload_n hx hb dX14_readParam_206 rfl (lv_at hl 3 rfl) ?_
                            refine g_getk (C := RX14) (T := TX14) (N := 67) hx hb hts (mc_ inX14) hown hK g rfl 2 (by decide) rfl (hts _ (List.mem_cons_of_mem _ t_2148)) (fun _ h9 => h9) 8 rfl dX14_readParam_207 ?_
                            refine g_getk (C := RX12) (T := TX12) (N := 60) hx hb hts (mc_ inX12) hown hK g rfl 20 (by decide) rfl (hts _ (List.mem_cons_of_mem _ t_1946)) (fun _ h9 => h9) 4 rfl dX14_readParam_210 ?_
                            refine lv_iload_n hx hb dX14_readParam_213 rfl (lv_at hl 2 rfl) ?_
                            refine g_iald hx hb hK g ma_103 ka_103 (by decide) rfl (in_bd b_102 (by decide)) dX14_readParam_214 (fun x_165 bx_165 cx_165 => ?_)
                            have vx_165 : x_165 = (V_.ui 20 y_101.toNatClampNeg r_104).i 20 y_101.toNatClampNeg := hG_160.at g 4 rfl rfl cx_165
                            refine lv_icmp_lt (tgt := 222) hx hb dX14_readParam_215 (by decide) (fun c_166 => ?_) (fun c_166 => ?_)
                            · have fc_166 := lt_f c_166
                              have b_167 : bd (-2147483648) 2147483646 y_164 := ltL fc_166 (bdT y_164) (bdT x_165) (by decide)
                              have b_168 : bd (-2147483647) 2147483647 x_165 := ltR fc_166 (bdT y_164) (bdT x_165) (by decide)
                              refine lv_iconst (v := 0) hx hb dX14_readParam_222 (by decide) ?_
                              refine lv_iconst (v := 3) hx hb dX14_readParam_223 (by decide) ?_
                              refine lv_aload_n hx hb dX14_readParam_224 rfl (lv_at hl 3 rfl) ?_
                              refine g_getk (C := RX14) (T := TX14) (N := 67) hx hb hts (mc_ inX14) hown hK g rfl 8 (by decide) rfl (hts _ (List.mem_cons_of_mem _ t_2154)) (fun _ h9 => h9) 1 rfl dX14_readParam_225 ?_
                              have hs_169 := sE_1 g 2 rfl (by have h9_0 := bme_; unfold bd at h9_0; have h9_1 := bo_; unfold bd at h9_1; have h9_2 := bop_; unfold bd at h9_2; have h9_3 := b_53; unfold bd at h9_3; have h9_4 := b_86; unfold bd at h9_4; have h9_5 := b_136; unfold bd at h9_5; have h9_6 := bx_11; unfold bd at h9_6; have h9_7 := h_131; unfold bd at h9_7; have h9_8 := b_153; unfold bd at h9_8; have h9_9 := bx_154; unfold bd at h9_9; have h9_10 := b_168; unfold bd at h9_10; have h9_11 := b_10; unfold bd at h9_11; have h9_12 := bx_44; unfold bd at h9_12; have h9_13 := b_98; unfold bd at h9_13; have h9_14 := b_115; unfold bd at h9_14; have h9_15 := b_102; unfold bd at h9_15; have h9_16 := b_167; unfold bd at h9_16; have h9_17 := b_100; unfold bd at h9_17; have h8_0 := kb_1; unfold bd at h8_0; have h8_1 := kb_3; unfold bd at h8_1; omega)
                              have kb_0 : bd 0 0 (0 : Int32) := ⟨by decide, by decide⟩
                              have go_ := g
                              refine g_callEv (As := [.int 0, .int 3, .int x_154]) (rest := []) ⟨hx, hb, hml, hown, hts⟩ (r_X14_need_2 l dC dI L kd tys fr_156 H.size g.2.2.2.1 a0_ ma0_ ka0_ 0 kb_0 3 x_154) (cwV 3 hts (gV_ t_2403 t_2405 t_100 t_198 t_2406) rfl rfl rfl (by decide +kernel) ⟨(Nat.le_of_ble_eq_true rfl), (Nat.le_of_ble_eq_true rfl)⟩) (pre3V g hK ma0_ ka0_ (by decide) (q := (RX14, TX14, 67)) rfl) rfl hl.1 rfl (lv_room (Nat.le_of_ble_eq_true rfl)) dX14_readParam_228 (cl_f hck_0) g hK (by decide) (by decide) (fx' := [(14, 11, a0_, .long x_163), (14, 8, a0_, .int x_154), (14, 6, a0_, .int x_146), (14, 10, a0_, .int x_130), (12, 20, q0_, .ref a_103), (14, 19, a0_, .ref a_69), (14, 18, a0_, .ref a_64), (12, 19, q0_, .ref a_43), (14, 2, a0_, .ref q0_), (14, 16, a0_, .int o_), (14, 25, a0_, .int op_), (14, 17, a0_, .int me_), (14, 20, a0_, .int pa_)]) rfl (fun xr_170 fr_170 H locs mxr_170 kxr_170 hp hMr_170 g => ?_) (fun fr_170 H locs hp hMr_170 g => ?_)
                              · have hG_171 := isV.frame hMr_170 go_.2.2.2.1 mq0_ kq0_ (by decide) (by decide) hG_160
                                have hG_172 := FR.frame hMr_170 go_.2.2.2.1 mq0_ kq0_ (by decide) (by decide) hG_161
                                have hG_173 := cEq.frame hMr_170 go_.2.2.2.1 ma0_ ka0_ (by decide) (by decide) hG_162
                                subst hQ
                                exact leavesX hempty hlocks (fun t ht hW => g_thrZ g hK mxr_170 kxr_170 ⟨hG_172, (by omega)⟩ ht hW) g.2.2.1.2.2
                              · exact hp.elim
                            · have fc_166 := nlt_f c_166
                              refine lv_iconst (v := 1) hx hb dX14_readParam_218 (by decide) ?_
                              refine lv_goto (tgt := 223) hx hb dX14_readParam_219 (by decide) ?_
                              refine lv_iconst (v := 3) hx hb dX14_readParam_223 (by decide) ?_
                              refine lv_aload_n hx hb dX14_readParam_224 rfl (lv_at hl 3 rfl) ?_
                              refine g_getk (C := RX14) (T := TX14) (N := 67) hx hb hts (mc_ inX14) hown hK g rfl 8 (by decide) rfl (hts _ (List.mem_cons_of_mem _ t_2154)) (fun _ h9 => h9) 1 rfl dX14_readParam_225 ?_
                              have hs_174 := sE_1 g 2 rfl (by have h9_0 := bme_; unfold bd at h9_0; have h9_1 := bo_; unfold bd at h9_1; have h9_2 := bop_; unfold bd at h9_2; have h9_3 := b_53; unfold bd at h9_3; have h9_4 := b_86; unfold bd at h9_4; have h9_5 := b_136; unfold bd at h9_5; have h9_6 := bx_11; unfold bd at h9_6; have h9_7 := h_131; unfold bd at h9_7; have h9_8 := b_153; unfold bd at h9_8; have h9_9 := bx_154; unfold bd at h9_9; have h9_10 := b_10; unfold bd at h9_10; have h9_11 := bx_44; unfold bd at h9_11; have h9_12 := b_98; unfold bd at h9_12; have h9_13 := b_115; unfold bd at h9_13; have h9_14 := b_102; unfold bd at h9_14; have h9_15 := b_100; unfold bd at h9_15; have h8_0 := kb_1; unfold bd at h8_0; have h8_1 := kb_3; unfold bd at h8_1; omega)
                              have go_ := g
                              refine g_callEv (As := [.int 1, .int 3, .int x_154]) (rest := []) ⟨hx, hb, hml, hown, hts⟩ (r_X14_need_3 l dC dI L kd tys fr_156 H.size g.2.2.2.1 a0_ ma0_ ka0_ 1 kb_1 3 x_154) (cwV 3 hts (gV_ t_2403 t_2405 t_100 t_198 t_2406) rfl rfl rfl (by decide +kernel) ⟨(Nat.le_of_ble_eq_true rfl), (Nat.le_of_ble_eq_true rfl)⟩) (pre3V g hK ma0_ ka0_ (by decide) (q := (RX14, TX14, 67)) rfl) rfl hl.1 rfl (lv_room (Nat.le_of_ble_eq_true rfl)) dX14_readParam_228 (cl_f hck_0) g hK (by decide) (by decide) (fx' := [(14, 11, a0_, .long x_163), (14, 8, a0_, .int x_154), (14, 6, a0_, .int x_146), (14, 10, a0_, .int x_130), (12, 20, q0_, .ref a_103), (14, 19, a0_, .ref a_69), (14, 18, a0_, .ref a_64), (12, 19, q0_, .ref a_43), (14, 2, a0_, .ref q0_), (14, 16, a0_, .int o_), (14, 25, a0_, .int op_), (14, 17, a0_, .int me_), (14, 20, a0_, .int pa_)]) rfl (fun xr_175 fr_175 H locs mxr_175 kxr_175 hp hMr_175 g => ?_) (fun fr_175 H locs hp hMr_175 g => ?_)
                              · have hG_176 := isV.frame hMr_175 go_.2.2.2.1 mq0_ kq0_ (by decide) (by decide) hG_160
                                have hG_177 := FR.frame hMr_175 go_.2.2.2.1 mq0_ kq0_ (by decide) (by decide) hG_161
                                have hG_178 := cEq.frame hMr_175 go_.2.2.2.1 ma0_ ka0_ (by decide) (by decide) hG_162
                                exact hp.elim
                              · have hG_179 := isV.frame hMr_175 go_.2.2.2.1 mq0_ kq0_ (by decide) (by decide) hG_160
                                have hG_180 := FR.frame hMr_175 go_.2.2.2.1 mq0_ kq0_ (by decide) (by decide) hG_161
                                have hG_181 := cEq.frame hMr_175 go_.2.2.2.1 ma0_ ka0_ (by decide) (by decide) hG_162
                                refine lv_aload_n hx hb dX14_readParam_231 rfl (lv_at hl 3 rfl) ?_
                                refine g_getk (C := RX14) (T := TX14) (N := 67) hx hb hts (mc_ inX14) hown hK g rfl 2 (by decide) rfl (hts _ (List.mem_cons_of_mem _ t_2148)) (fun _ h9 => h9) 8 rfl dX14_readParam_232 ?_
                                refine g_getr (K := 177) (C := RX12) (T := TX12) (N := 60) hx hb hts (mc_ inX12) hown hK g mq0_ kq0_ (by decide) rfl 21 (by decide) rfl (hts _ (List.mem_cons_of_mem _ t_1948)) (fun _ h9 => h9) rfl dX14_readParam_235 (fun a_182 ma_182 ka_182 g => ?_)
                                refine lv_iload_n hx hb dX14_readParam_238 rfl (lv_at hl 2 rfl) ?_
                                refine lv_iload_n hx hb dX14_readParam_239 rfl (lv_at hl 0 rfl) ?_
                                have hb_183 : ∀ m : Nat, m < 110 → ((V_.ui 20 y_101.toNatClampNeg r_104).i 19 m).toInt ≤ 3 := (fun c hc => (isV.rng hG_179 g mq0_ kq0_ (j := 19) (K := 175) (by decide) rfl (by decide) rfl hc).2)
                                have gp_184 := g
                                have go_ := g
                                refine g_iastX hx hb hK g ma_182 ka_182 (by decide) rfl (in_bd b_102 (by decide)) (bdT y_164) (by decide) dX14_readParam_240 (fun f H locs hM_185 u_187 g => ?_)
                                have hG_186 := cEq.frame hM_185 go_.2.2.2.1 ma0_ ka0_ (by decide) (by decide) hG_181
                                have hV_188 := isV.ui hG_179 gp_184 0 rfl mq0_ kq0_ rfl u_187
                                have hF_189 := FR.arr hG_180 gp_184 0 rfl mq0_ kq0_ rfl rfl u_187.1
                                have hki_190 : KI ((V_.ui 20 y_101.toNatClampNeg r_104).ui 21 y_101.toNatClampNeg y_164) δ_ o_.toNatClampNeg := KI.par hki_123 (by decide) hb_183 (by show 3 * (V_.n 27).toInt ≤ _; rw [tnZ (by have h9_0 := bme_; unfold bd at h9_0; have h9_1 := bo_; unfold bd at h9_1; have h9_2 := bop_; unfold bd at h9_2; have h9_3 := b_53; unfold bd at h9_3; have h9_4 := b_86; unfold bd at h9_4; have h9_5 := b_136; unfold bd at h9_5; have h9_6 := bx_11; unfold bd at h9_6; have h9_7 := h_131; unfold bd at h9_7; have h9_8 := b_153; unfold bd at h9_8; have h9_9 := bx_154; unfold bd at h9_9; have h9_10 := b_10; unfold bd at h9_10; have h9_11 := bx_44; unfold bd at h9_11; have h9_12 := b_98; unfold bd at h9_12; have h9_13 := b_115; unfold bd at h9_13; have h9_14 := b_102; unfold bd at h9_14; have h9_15 := b_100; unfold bd at h9_15; have h8_0 := kb_1; unfold bd at h8_0; have h8_1 := kb_3; unfold bd at h8_1; omega)]; have h9_0 := bme_; unfold bd at h9_0; have h9_1 := bo_; unfold bd at h9_1; have h9_2 := bop_; unfold bd at h9_2; have h9_3 := b_53; unfold bd at h9_3; have h9_4 := b_86; unfold bd at h9_4; have h9_5 := b_136; unfold bd at h9_5; have h9_6 := bx_11; unfold bd at h9_6; have h9_7 := h_131; unfold bd at h9_7; have h9_8 := b_153; unfold bd at h9_8; have h9_9 := bx_154; unfold bd at h9_9; have h9_10 := b_10; unfold bd at h9_10; have h9_11 := bx_44; unfold bd at h9_11; have h9_12 := b_98; unfold bd at h9_12; have h9_13 := b_115; unfold bd at h9_13; have h9_14 := b_102; unfold bd at h9_14; have h9_15 := b_100; unfold bd at h9_15; have h8_0 := kb_1; unfold bd at h8_0; have h8_1 := kb_3; unfold bd at h8_1; omega)
                                refine lv_aload_n hx hb dX14_readParam_241 rfl (lv_at hl 3 rfl) ?_
                                have hs_191 := sE_1 g 3 rfl (by have h9_0 := bme_; unfold bd at h9_0; have h9_1 := bo_; unfold bd at h9_1; have h9_2 := bop_; unfold bd at h9_2; have h9_3 := b_53; unfold bd at h9_3; have h9_4 := b_86; unfold bd at h9_4; have h9_5 := b_136; unfold bd at h9_5; have h9_6 := bx_11; unfold bd at h9_6; have h9_7 := h_131; unfold bd at h9_7; have h9_8 := b_153; unfold bd at h9_8; have h9_9 := bx_154; unfold bd at h9_9; have h9_10 := b_10; unfold bd at h9_10; have h9_11 := bx_44; unfold bd at h9_11; have h9_12 := b_98; unfold bd at h9_12; have h9_13 := b_115; unfold bd at h9_13; have h9_14 := b_102; unfold bd at h9_14; have h9_15 := b_100; unfold bd at h9_15; have h8_0 := kb_1; unfold bd at h8_0; have h8_1 := kb_3; unfold bd at h8_1; omega)
                                have go_ := g
                                refine g_callEv (As := []) (rest := []) ⟨hx, hb, hml, hown, hts⟩ (r_X14_next_2 l dC dI L kd tys f H.size g.2.2.2.1 adK adV a0_ ma0_ ka0_ x_130 h_131 (g.fcts [4] rfl)) (cwV 0 hts (gV_ t_2411 t_2413 t_102 t_198 t_2414) rfl rfl rfl (by decide +kernel) ⟨(Nat.le_of_ble_eq_true rfl), (Nat.le_of_ble_eq_true rfl)⟩) (pre3VA g hK hAm ma0_ ka0_ (by decide) (q := (RX14, TX14, 67)) rfl) rfl hl.1 rfl (lv_room (Nat.le_of_ble_eq_true rfl)) dX14_readParam_242 (cl_f hck_0) g hK (by decide) (by decide) (fx' := [(12, 21, q0_, .ref a_182), (12, 20, q0_, .ref a_103), (14, 19, a0_, .ref a_69), (14, 18, a0_, .ref a_64), (12, 19, q0_, .ref a_43), (14, 2, a0_, .ref q0_), (14, 16, a0_, .int o_), (14, 25, a0_, .int op_), (14, 17, a0_, .int me_), (14, 20, a0_, .int pa_)]) rfl (fun xr_192 fr_192 H locs mxr_192 kxr_192 hp hMr_192 g => ?_) (fun fr_192 H locs hp hMr_192 g => ?_)
                                · have hG_193 := isV.frame hMr_192 go_.2.2.2.1 mq0_ kq0_ (by decide) (by decide) hV_188
                                  have hG_194 := FR.frame hMr_192 go_.2.2.2.1 mq0_ kq0_ (by decide) (by decide) hF_189
                                  subst hQ
                                  exact leavesX hempty hlocks (fun t ht hW => g_thrZ g hK mxr_192 kxr_192 ⟨hG_194, (by omega)⟩ ht hW) g.2.2.1.2.2
                                · obtain ⟨hx_195, h_196, x_197, h_198, hF_199⟩ := hp
                                  have hG_200 := isV.frame hMr_192 go_.2.2.2.1 mq0_ kq0_ (by decide) (by decide) hV_188
                                  have hG_201 := FR.frame hMr_192 go_.2.2.2.1 mq0_ kq0_ (by decide) (by decide) hF_189
                                  obtain ⟨E_202, hE_202⟩ : ∃ E : Int, cEq fr_192 a0_ E := ⟨_, rfl⟩
                                  have mxE_202 : E_202 ≤ 1202 := by have h9 := cF_le g ma0_ ka0_; have h8 : cF _ _ = _ := hE_202; omega
                                  have lE_202 : E_135 + 1 ≤ E_202 := by have h9 := hx_195; have h8 : cF _ _ = _ := hE_202; have h7 : cF _ _ = _ := hG_186; have h6 := hs_191; have h5 := tk_c (f := f) (t := a0_); omega
                                  have b_203 : bd 0 1200 x_130 := eqX rfl h_131 h_196 (by decide)
                                  have g := g.more hF_199
                                  refine lv_aload_n hx hb dX14_readParam_245 rfl (lv_at hl 3 rfl) ?_
                                  refine lv_dup hx hb dX14_readParam_246 rfl ?_
                                  refine g_getk (C := RX14) (T := TX14) (N := 67) hx hb hts (mc_ inX14) hown hK g rfl 20 (by decide) rfl (hts _ (List.mem_cons_of_mem _ t_2166)) (fun _ h9 => h9) 10 rfl dX14_readParam_247 ?_
                                  refine lv_iconst (v := 1) hx hb dX14_readParam_250 (by decide) ?_
                                  refine lv_iadd hx hb dX14_readParam_251 ?_
                                  refine lv_topi (fun y_204 ey_204 => ?_)
                                  have ty_204 := add_bd ey_204 b_53 kb_1 (by decide)
                                  have b_205 : bd 1 3 y_204 := add_rg ty_204 b_53 kb_1 (by decide)
                                  have go_ := g
                                  refine g_put (C := RX14) (T := TX14) (N := 67) hx hb hts (mc_ inX14) tyX14 tyX14_ok nmX14 hown hK g ma0_ ka0_ (by decide) rfl 20 (by decide) (hts _ (List.mem_cons_of_mem _ t_2166)) (fun _ h9 => h9) rfl rfl (okV_i (bd_sub b_205 (by decide))) rfl rfl (by decide) (Or.inr (Or.inl (by decide))) (fx' := [(14, 10, a0_, .int x_197), (12, 21, q0_, .ref a_182), (12, 20, q0_, .ref a_103), (14, 19, a0_, .ref a_69), (14, 18, a0_, .ref a_64), (12, 19, q0_, .ref a_43), (14, 2, a0_, .ref q0_), (14, 16, a0_, .int o_), (14, 25, a0_, .int op_), (14, 17, a0_, .int me_)]) rfl dX14_readParam_252 (fun f H locs hM_206 g => ?_)
                                  have hG_207 := isV.frame hM_206 go_.2.2.2.1 mq0_ kq0_ (by decide) (by decide) hG_200
                                  have hG_208 := FR.frame hM_206 go_.2.2.2.1 mq0_ kq0_ (by decide) (by decide) hG_201
                                  have hG_209 := cEq.frame hM_206 go_.2.2.2.1 ma0_ ka0_ (by decide) (by decide) hE_202
                                  refine lv_aload_n hx hb dX14_readParam_255 rfl (lv_at hl 3 rfl) ?_
                                  refine g_getk (C := RX14) (T := TX14) (N := 67) hx hb hts (mc_ inX14) hown hK g rfl 2 (by decide) rfl (hts _ (List.mem_cons_of_mem _ t_2148)) (fun _ h9 => h9) 7 rfl dX14_readParam_256 ?_
                                  refine g_getk (C := RX12) (T := TX12) (N := 60) hx hb hts (mc_ inX12) hown hK g rfl 19 (by decide) rfl (hts _ (List.mem_cons_of_mem _ t_1944)) (fun _ h9 => h9) 6 rfl dX14_readParam_259 ?_
                                  refine lv_aload_n hx hb dX14_readParam_262 rfl (lv_at hl 3 rfl) ?_
                                  refine g_getk (C := RX14) (T := TX14) (N := 67) hx hb hts (mc_ inX14) hown hK g rfl 17 (by decide) rfl (hts _ (List.mem_cons_of_mem _ t_2163)) (fun _ h9 => h9) 10 rfl dX14_readParam_263 ?_
                                  refine lv_dup2_11 hx hb dX14_readParam_266 rfl rfl ?_
                                  refine g_iald hx hb hK g ma_43 ka_43 (by decide) rfl (in_bd bme_ (by decide)) dX14_readParam_267 (fun x_210 bx_210 cx_210 => ?_)
                                  have vx_210 : x_210 = ((V_.ui 20 y_101.toNatClampNeg r_104).ui 21 y_101.toNatClampNeg y_164).i 19 me_.toNatClampNeg := hG_207.at g 6 rfl rfl cx_210
                                  obtain rfl : pa_ = x_210 := hpa.trans (show x_210 = V_.i 19 me_.toNatClampNeg from vx_210).symm
                                  refine lv_iconst (v := 1) hx hb dX14_readParam_268 (by decide) ?_
                                  refine lv_iadd hx hb dX14_readParam_269 ?_
                                  refine lv_topi (fun y_211 ey_211 => ?_)
                                  obtain rfl : y_204 = y_211 := ey_204.trans ey_211.symm
                                  have gp_213 := g
                                  have go_ := g
                                  refine g_iastX hx hb hK g ma_43 ka_43 (by decide) rfl (in_bd bme_ (by decide)) (bd_sub b_205 (by decide)) (by decide) dX14_readParam_270 (fun f H locs hM_214 u_216 g => ?_)
                                  have hG_215 := cEq.frame hM_214 go_.2.2.2.1 ma0_ ka0_ (by decide) (by decide) hG_209
                                  have hV_217 := isV.ui hG_207 gp_213 6 rfl mq0_ kq0_ rfl u_216
                                  have hF_218 := FR.arr hG_208 gp_213 6 rfl mq0_ kq0_ rfl rfl u_216.1
                                  have hki_219 : KI (((V_.ui 20 y_101.toNatClampNeg r_104).ui 21 y_101.toNatClampNeg y_164).ui 19 me_.toNatClampNeg y_204) δ_ o_.toNatClampNeg := KI.new_ hki_190 (by decide) hmN
                                  have h9c : cF f a0_ = _ := hG_215
                                  have h8c : ((((V_.ui 20 y_101.toNatClampNeg r_104).ui 21 y_101.toNatClampNeg y_164).ui 19 me_.toNatClampNeg y_204).n 57).toInt = (V_.n 57).toInt ∧ ((((V_.ui 20 y_101.toNatClampNeg r_104).ui 21 y_101.toNatClampNeg y_164).ui 19 me_.toNatClampNeg y_204).n 46).toInt = (V_.n 46).toInt := ⟨rfl, rfl⟩
                                  subst hQ
                                  exact vretX hx hb hr (fun t ht hW => g_retZ g hK ⟨rfl, ⟨⟨(((V_.ui 20 y_101.toNatClampNeg r_104).ui 21 y_101.toNatClampNeg y_164).ui 19 me_.toNatClampNeg y_204), _, hV_217, hF_218, hki_219, (prP.of hlh bpa_.1 (by have h9_0 := bme_; unfold bd at h9_0; have h9_1 := bo_; unfold bd at h9_1; have h9_2 := bop_; unfold bd at h9_2; have h9_3 := b_53; unfold bd at h9_3; have h9_4 := b_86; unfold bd at h9_4; have h9_5 := b_136; unfold bd at h9_5; have h9_6 := bx_11; unfold bd at h9_6; have h9_7 := b_203; unfold bd at h9_7; have h9_8 := b_153; unfold bd at h9_8; have h9_9 := bx_154; unfold bd at h9_9; have h9_10 := h_198; unfold bd at h9_10; have h9_11 := b_10; unfold bd at h9_11; have h9_12 := bx_210; unfold bd at h9_12; have h9_13 := bx_44; unfold bd at h9_13; have h9_14 := b_98; unfold bd at h9_14; have h9_15 := b_115; unfold bd at h9_15; have h9_16 := b_102; unfold bd at h9_16; have h9_17 := b_205; unfold bd at h9_17; have h9_18 := b_100; unfold bd at h9_18; have h8_0 := kb_1; unfold bd at h8_0; have h8_1 := kb_3; unfold bd at h8_1; omega) (ix3 bme_.1 bpa_.1 (by have h9_0 := bme_; unfold bd at h9_0; have h9_1 := bo_; unfold bd at h9_1; have h9_2 := bop_; unfold bd at h9_2; have h9_3 := b_53; unfold bd at h9_3; have h9_4 := b_86; unfold bd at h9_4; have h9_5 := b_136; unfold bd at h9_5; have h9_6 := bx_11; unfold bd at h9_6; have h9_7 := b_203; unfold bd at h9_7; have h9_8 := b_153; unfold bd at h9_8; have h9_9 := bx_154; unfold bd at h9_9; have h9_10 := h_198; unfold bd at h9_10; have h9_11 := b_10; unfold bd at h9_11; have h9_12 := bx_210; unfold bd at h9_12; have h9_13 := bx_44; unfold bd at h9_13; have h9_14 := b_98; unfold bd at h9_14; have h9_15 := b_115; unfold bd at h9_15; have h9_16 := b_102; unfold bd at h9_16; have h9_17 := b_205; unfold bd at h9_17; have h9_18 := b_100; unfold bd at h9_18; have h8_0 := kb_1; unfold bd at h8_0; have h8_1 := kb_3; unfold bd at h8_1; omega)) (by have h9 : x_165 = r_104 := vx_165.trans q_124; rw [← h9]; have h9_0 := bme_; unfold bd at h9_0; have h9_1 := bo_; unfold bd at h9_1; have h9_2 := bop_; unfold bd at h9_2; have h9_3 := b_53; unfold bd at h9_3; have h9_4 := b_86; unfold bd at h9_4; have h9_5 := b_136; unfold bd at h9_5; have h9_6 := bx_11; unfold bd at h9_6; have h9_7 := b_203; unfold bd at h9_7; have h9_8 := b_153; unfold bd at h9_8; have h9_9 := bx_154; unfold bd at h9_9; have h9_10 := h_198; unfold bd at h9_10; have h9_11 := b_10; unfold bd at h9_11; have h9_12 := bx_210; unfold bd at h9_12; have h9_13 := bx_44; unfold bd at h9_13; have h9_14 := b_98; unfold bd at h9_14; have h9_15 := b_115; unfold bd at h9_15; have h9_16 := b_102; unfold bd at h9_16; have h9_17 := b_205; unfold bd at h9_17; have h9_18 := b_100; unfold bd at h9_18; have h8_0 := kb_1; unfold bd at h8_0; have h8_1 := kb_3; unfold bd at h8_1; omega)), (by omega), (by omega), (by omega), (by omega)⟩, x_197, h_198, y_204, ⟨b_205, (by have h9_0 := bme_; unfold bd at h9_0; have h9_1 := bo_; unfold bd at h9_1; have h9_2 := bop_; unfold bd at h9_2; have h9_3 := b_53; unfold bd at h9_3; have h9_4 := b_86; unfold bd at h9_4; have h9_5 := b_136; unfold bd at h9_5; have h9_6 := bx_11; unfold bd at h9_6; have h9_7 := b_203; unfold bd at h9_7; have h9_8 := b_153; unfold bd at h9_8; have h9_9 := bx_154; unfold bd at h9_9; have h9_10 := h_198; unfold bd at h9_10; have h9_11 := b_10; unfold bd at h9_11; have h9_12 := bx_210; unfold bd at h9_12; have h9_13 := bx_44; unfold bd at h9_13; have h9_14 := b_98; unfold bd at h9_14; have h9_15 := b_115; unfold bd at h9_15; have h9_16 := b_102; unfold bd at h9_16; have h9_17 := b_205; unfold bd at h9_17; have h9_18 := b_100; unfold bd at h9_18; have h8_0 := kb_1; unfold bd at h8_0; have h8_1 := kb_3; unfold bd at h8_1; omega)⟩, (g.fcts [9, 1, 0] rfl)⟩⟩ ht hW) g.2.2.1.2.2 dX14_readParam_271 hlocks
                      · have hG_220 := isV.frame hMr_137 go_.2.2.2.1 mq0_ kq0_ (by decide) (by decide) hG_133
                        have hG_221 := FR.frame hMr_137 go_.2.2.2.1 mq0_ kq0_ (by decide) (by decide) hG_134
                        have hG_222 := cEq.frame hMr_137 go_.2.2.2.1 ma0_ ka0_ (by decide) (by decide) hE_135
                        obtain rfl : r_137 = 1 := h_139
                        have g := g.more hF_142
                        refine lv_istore_n (lv' := [(2, .int 1), (1, .int y_101), (0, .ref a0_)]) hx hb dX14_readParam_155 rfl hl (by decide) rfl (fun ls hl => ?_)
                        refine lv_iload_n hx hb dX14_readParam_156 rfl (lv_at hl 0 rfl) ?_
                        refine lv_if_eq (tgt := 164) hx hb dX14_readParam_157 (by decide) (fun c_ => absurd c_ (by decide)) (fun c_ => ?_)
                        refine lv_aload_n hx hb dX14_readParam_160 rfl (lv_at hl 2 rfl) ?_
                        have hs_223 := sE_1 g 0 rfl (by have h9_0 := bme_; unfold bd at h9_0; have h9_1 := bo_; unfold bd at h9_1; have h9_2 := bop_; unfold bd at h9_2; have h9_3 := b_53; unfold bd at h9_3; have h9_4 := b_86; unfold bd at h9_4; have h9_5 := b_136; unfold bd at h9_5; have h9_6 := bx_11; unfold bd at h9_6; have h9_7 := h_131; unfold bd at h9_7; have h9_8 := h_141; unfold bd at h9_8; have h9_9 := b_10; unfold bd at h9_9; have h9_10 := bx_44; unfold bd at h9_10; have h9_11 := b_98; unfold bd at h9_11; have h9_12 := b_115; unfold bd at h9_12; have h9_13 := b_102; unfold bd at h9_13; have h9_14 := b_100; unfold bd at h9_14; have h8_0 := kb_1; unfold bd at h8_0; have h8_1 := kb_3; unfold bd at h8_1; omega)
                        have go_ := g
                        refine g_callEv (As := []) (rest := []) ⟨hx, hb, hml, hown, hts⟩ (r_X14_next_2 l dC dI L kd tys fr_137 H.size g.2.2.2.1 adK adV a0_ ma0_ ka0_ x_130 h_131 (g.fcts [1] rfl)) (cwV 0 hts (gV_ t_2411 t_2413 t_102 t_198 t_2414) rfl rfl rfl (by decide +kernel) ⟨(Nat.le_of_ble_eq_true rfl), (Nat.le_of_ble_eq_true rfl)⟩) (pre3VA g hK hAm ma0_ ka0_ (by decide) (q := (RX14, TX14, 67)) rfl) rfl hl.1 rfl (lv_room (Nat.le_of_ble_eq_true rfl)) dX14_readParam_161 (cl_f hck_0) g hK (by decide) (by decide) (fx' := [(12, 20, q0_, .ref a_103), (14, 19, a0_, .ref a_69), (14, 18, a0_, .ref a_64), (12, 19, q0_, .ref a_43), (14, 2, a0_, .ref q0_), (14, 16, a0_, .int o_), (14, 25, a0_, .int op_), (14, 17, a0_, .int me_), (14, 20, a0_, .int pa_)]) rfl (fun xr_224 fr_224 H locs mxr_224 kxr_224 hp hMr_224 g => ?_) (fun fr_224 H locs hp hMr_224 g => ?_)
                        · have hG_225 := isV.frame hMr_224 go_.2.2.2.1 mq0_ kq0_ (by decide) (by decide) hG_220
                          have hG_226 := FR.frame hMr_224 go_.2.2.2.1 mq0_ kq0_ (by decide) (by decide) hG_221
                          subst hQ
                          exact leavesX hempty hlocks (fun t ht hW => g_thrZ g hK mxr_224 kxr_224 ⟨hG_226, (by omega)⟩ ht hW) g.2.2.1.2.2
                        · obtain ⟨hx_227, h_228, x_229, h_230, hF_231⟩ := hp
                          have hG_232 := isV.frame hMr_224 go_.2.2.2.1 mq0_ kq0_ (by decide) (by decide) hG_220
                          have hG_233 := FR.frame hMr_224 go_.2.2.2.1 mq0_ kq0_ (by decide) (by decide) hG_221
                          obtain ⟨E_234, hE_234⟩ : ∃ E : Int, cEq fr_224 a0_ E := ⟨_, rfl⟩
                          have mxE_234 : E_234 ≤ 1202 := by have h9 := cF_le g ma0_ ka0_; have h8 : cF _ _ = _ := hE_234; omega
                          have lE_234 : E_135 + 1 ≤ E_234 := by have h9 := hx_227; have h8 : cF _ _ = _ := hE_234; have h7 : cF _ _ = _ := hG_222; have h6 := hs_223; have h5 := tk_c (f := fr_137) (t := a0_); omega
                          have b_235 : bd 0 1200 x_130 := eqX rfl h_131 h_228 (by decide)
                          have g := g.more hF_231
                          refine lv_aload_n hx hb dX14_readParam_164 rfl (lv_at hl 2 rfl) ?_
                          refine lv_aload_n hx hb dX14_readParam_165 rfl (lv_at hl 2 rfl) ?_
                          refine g_geti (C := RX14) (T := TX14) (N := 67) hx hb hts (mc_ inX14) hown hK g ma0_ ka0_ (by decide) rfl 6 (by decide) rfl (hts _ (List.mem_cons_of_mem _ t_2152)) (fun _ h9 => h9) rfl dX14_readParam_166 (fun x_236 bx_236 g => ?_)
                          refine lv_iconst (v := 3) hx hb dX14_readParam_169 (by decide) ?_
                          refine lv_icmp_ne (tgt := 177) hx hb dX14_readParam_170 (by decide) (fun c_237 => ?_) (fun c_237 => ?_)
                          · have fc_237 := neq_f c_237
                            refine lv_iconst (v := 0) hx hb dX14_readParam_177 (by decide) ?_
                            refine lv_iconst (v := 1) hx hb dX14_readParam_178 (by decide) ?_
                            refine lv_aload_n hx hb dX14_readParam_179 rfl (lv_at hl 2 rfl) ?_
                            refine g_geti (C := RX14) (T := TX14) (N := 67) hx hb hts (mc_ inX14) hown hK g ma0_ ka0_ (by decide) rfl 8 (by decide) rfl (hts _ (List.mem_cons_of_mem _ t_2154)) (fun _ h9 => h9) rfl dX14_readParam_180 (fun x_238 bx_238 g => ?_)
                            have kb_0 : bd 0 0 (0 : Int32) := ⟨by decide, by decide⟩
                            have go_ := g
                            refine g_callEv (As := [.int 0, .int 1, .int x_238]) (rest := []) ⟨hx, hb, hml, hown, hts⟩ (r_X14_need_2 l dC dI L kd tys fr_224 H.size g.2.2.2.1 a0_ ma0_ ka0_ 0 kb_0 1 x_238) (cwV 3 hts (gV_ t_2403 t_2405 t_100 t_198 t_2406) rfl rfl rfl (by decide +kernel) ⟨(Nat.le_of_ble_eq_true rfl), (Nat.le_of_ble_eq_true rfl)⟩) (pre3V g hK ma0_ ka0_ (by decide) (q := (RX14, TX14, 67)) rfl) rfl hl.1 rfl (lv_room (Nat.le_of_ble_eq_true rfl)) dX14_readParam_183 (cl_f hck_0) g hK (by decide) (by decide) (fx' := [(14, 8, a0_, .int x_238), (14, 6, a0_, .int x_236), (14, 10, a0_, .int x_229), (12, 20, q0_, .ref a_103), (14, 19, a0_, .ref a_69), (14, 18, a0_, .ref a_64), (12, 19, q0_, .ref a_43), (14, 2, a0_, .ref q0_), (14, 16, a0_, .int o_), (14, 25, a0_, .int op_), (14, 17, a0_, .int me_), (14, 20, a0_, .int pa_)]) rfl (fun xr_239 fr_239 H locs mxr_239 kxr_239 hp hMr_239 g => ?_) (fun fr_239 H locs hp hMr_239 g => ?_)
                            · have hG_240 := isV.frame hMr_239 go_.2.2.2.1 mq0_ kq0_ (by decide) (by decide) hG_232
                              have hG_241 := FR.frame hMr_239 go_.2.2.2.1 mq0_ kq0_ (by decide) (by decide) hG_233
                              have hG_242 := cEq.frame hMr_239 go_.2.2.2.1 ma0_ ka0_ (by decide) (by decide) hE_234
                              subst hQ
                              exact leavesX hempty hlocks (fun t ht hW => g_thrZ g hK mxr_239 kxr_239 ⟨hG_241, (by omega)⟩ ht hW) g.2.2.1.2.2
                            · exact hp.elim
                          · have fc_237 := eq_f c_237
                            have b_243 : bd 3 3 x_236 := eqX fc_237 bx_236 kb_3 (by decide)
                            refine lv_iconst (v := 1) hx hb dX14_readParam_173 (by decide) ?_
                            refine lv_goto (tgt := 178) hx hb dX14_readParam_174 (by decide) ?_
                            refine lv_iconst (v := 1) hx hb dX14_readParam_178 (by decide) ?_
                            refine lv_aload_n hx hb dX14_readParam_179 rfl (lv_at hl 2 rfl) ?_
                            refine g_geti (C := RX14) (T := TX14) (N := 67) hx hb hts (mc_ inX14) hown hK g ma0_ ka0_ (by decide) rfl 8 (by decide) rfl (hts _ (List.mem_cons_of_mem _ t_2154)) (fun _ h9 => h9) rfl dX14_readParam_180 (fun x_244 bx_244 g => ?_)
                            have hs_245 := sE_1 g 1 rfl (by have h9_0 := bme_; unfold bd at h9_0; have h9_1 := bo_; unfold bd at h9_1; have h9_2 := bop_; unfold bd at h9_2; have h9_3 := b_53; unfold bd at h9_3; have h9_4 := b_86; unfold bd at h9_4; have h9_5 := b_136; unfold bd at h9_5; have h9_6 := bx_11; unfold bd at h9_6; have h9_7 := b_235; unfold bd at h9_7; have h9_8 := h_141; unfold bd at h9_8; have h9_9 := b_10; unfold bd at h9_9; have h9_10 := h_230; unfold bd at h9_10; have h9_11 := b_243; unfold bd at h9_11; have h9_12 := bx_244; unfold bd at h9_12; have h9_13 := bx_44; unfold bd at h9_13; have h9_14 := b_98; unfold bd at h9_14; have h9_15 := b_115; unfold bd at h9_15; have h9_16 := b_102; unfold bd at h9_16; have h9_17 := b_100; unfold bd at h9_17; have h8_0 := kb_1; unfold bd at h8_0; have h8_1 := kb_3; unfold bd at h8_1; omega)
                            have go_ := g
                            refine g_callEv (As := [.int 1, .int 1, .int x_244]) (rest := []) ⟨hx, hb, hml, hown, hts⟩ (r_X14_need_3 l dC dI L kd tys fr_224 H.size g.2.2.2.1 a0_ ma0_ ka0_ 1 kb_1 1 x_244) (cwV 3 hts (gV_ t_2403 t_2405 t_100 t_198 t_2406) rfl rfl rfl (by decide +kernel) ⟨(Nat.le_of_ble_eq_true rfl), (Nat.le_of_ble_eq_true rfl)⟩) (pre3V g hK ma0_ ka0_ (by decide) (q := (RX14, TX14, 67)) rfl) rfl hl.1 rfl (lv_room (Nat.le_of_ble_eq_true rfl)) dX14_readParam_183 (cl_f hck_0) g hK (by decide) (by decide) (fx' := [(14, 8, a0_, .int x_244), (14, 6, a0_, .int x_236), (14, 10, a0_, .int x_229), (12, 20, q0_, .ref a_103), (14, 19, a0_, .ref a_69), (14, 18, a0_, .ref a_64), (12, 19, q0_, .ref a_43), (14, 2, a0_, .ref q0_), (14, 16, a0_, .int o_), (14, 25, a0_, .int op_), (14, 17, a0_, .int me_), (14, 20, a0_, .int pa_)]) rfl (fun xr_246 fr_246 H locs mxr_246 kxr_246 hp hMr_246 g => ?_) (fun fr_246 H locs hp hMr_246 g => ?_)
                            · have hG_247 := isV.frame hMr_246 go_.2.2.2.1 mq0_ kq0_ (by decide) (by decide) hG_232
                              have hG_248 := FR.frame hMr_246 go_.2.2.2.1 mq0_ kq0_ (by decide) (by decide) hG_233
                              have hG_249 := cEq.frame hMr_246 go_.2.2.2.1 ma0_ ka0_ (by decide) (by decide) hE_234
                              exact hp.elim
                            · have hG_250 := isV.frame hMr_246 go_.2.2.2.1 mq0_ kq0_ (by decide) (by decide) hG_232
                              have hG_251 := FR.frame hMr_246 go_.2.2.2.1 mq0_ kq0_ (by decide) (by decide) hG_233
                              have hG_252 := cEq.frame hMr_246 go_.2.2.2.1 ma0_ ka0_ (by decide) (by decide) hE_234
                              refine lv_iload_n hx hb dX14_readParam_186 rfl (lv_at hl 0 rfl) ?_
                              refine lv_if_eq (tgt := 198) hx hb dX14_readParam_187 (by decide) (fun c_ => absurd c_ (by decide)) (fun c_ => ?_)
                              refine lv_aload_n hx hb dX14_readParam_190 rfl (lv_at hl 2 rfl) ?_
                              refine g_getl (C := RX14) (T := TX14) (N := 67) hx hb hts (mc_ inX14) hown hK g ma0_ ka0_ (by decide) rfl 11 (by decide) rfl (hts _ (List.mem_cons_of_mem _ t_2157)) (fun _ h9 => h9) rfl dX14_readParam_191 (fun x_253 g => ?_)
                              refine lv_lneg hx hb dX14_readParam_194 ?_
                              refine lv_topl (fun y_254 ey_254 => ?_)
                              refine lv_goto (tgt := 202) hx hb dX14_readParam_195 (by decide) ?_
                              refine lv_l2i hx hb dX14_readParam_202 rfl ?_
                              refine lv_topi (fun y_255 ey_255 => ?_)
                              refine lv_istore_n (lv' := [(3, .int y_255), (2, .int 1), (1, .int y_101), (0, .ref a0_)]) hx hb dX14_readParam_203 rfl hl (by decide) rfl (fun ls hl => ?_)
                              refine lv_aload_n hx hb dX14_readParam_204 rfl (lv_at hl 3 rfl) ?_
                              refine lv_iload_n hx hb dX14_readParam_205 rfl (lv_at hl 0 rfl) ?_
                              refine lv_aload_n hx hb dX14_readParam_206 rfl (lv_at hl 3 rfl) ?_
                              refine g_getk (C := RX14) (T := TX14) (N := 67) hx hb hts (mc_ inX14) hown hK g rfl 2 (by decide) rfl (hts _ (List.mem_cons_of_mem _ t_2148)) (fun _ h9 => h9) 8 rfl dX14_readParam_207 ?_
                              refine g_getk (C := RX12) (T := TX12) (N := 60) hx hb hts (mc_ inX12) hown hK g rfl 20 (by decide) rfl (hts _ (List.mem_cons_of_mem _ t_1946)) (fun _ h9 => h9) 4 rfl dX14_readParam_210 ?_
                              refine lv_iload_n hx hb dX14_readParam_213 rfl (lv_at hl 2 rfl) ?_
                              refine g_iald hx hb hK g ma_103 ka_103 (by decide) rfl (in_bd b_102 (by decide)) dX14_readParam_214 (fun x_256 bx_256 cx_256 => ?_)
                              have vx_256 : x_256 = (V_.ui 20 y_101.toNatClampNeg r_104).i 20 y_101.toNatClampNeg := hG_250.at g 4 rfl rfl cx_256
                              refine lv_icmp_lt (tgt := 222) hx hb dX14_readParam_215 (by decide) (fun c_257 => ?_) (fun c_257 => ?_)
                              · have fc_257 := lt_f c_257
                                have b_258 : bd (-2147483648) 2147483646 y_255 := ltL fc_257 (bdT y_255) (bdT x_256) (by decide)
                                have b_259 : bd (-2147483647) 2147483647 x_256 := ltR fc_257 (bdT y_255) (bdT x_256) (by decide)
                                refine lv_iconst (v := 0) hx hb dX14_readParam_222 (by decide) ?_
                                refine lv_iconst (v := 3) hx hb dX14_readParam_223 (by decide) ?_
                                refine lv_aload_n hx hb dX14_readParam_224 rfl (lv_at hl 3 rfl) ?_
                                refine g_getk (C := RX14) (T := TX14) (N := 67) hx hb hts (mc_ inX14) hown hK g rfl 8 (by decide) rfl (hts _ (List.mem_cons_of_mem _ t_2154)) (fun _ h9 => h9) 1 rfl dX14_readParam_225 ?_
                                have hs_260 := sE_1 g 2 rfl (by have h9_0 := bme_; unfold bd at h9_0; have h9_1 := bo_; unfold bd at h9_1; have h9_2 := bop_; unfold bd at h9_2; have h9_3 := b_53; unfold bd at h9_3; have h9_4 := b_86; unfold bd at h9_4; have h9_5 := b_136; unfold bd at h9_5; have h9_6 := bx_11; unfold bd at h9_6; have h9_7 := b_235; unfold bd at h9_7; have h9_8 := h_141; unfold bd at h9_8; have h9_9 := b_10; unfold bd at h9_9; have h9_10 := h_230; unfold bd at h9_10; have h9_11 := b_243; unfold bd at h9_11; have h9_12 := bx_244; unfold bd at h9_12; have h9_13 := b_259; unfold bd at h9_13; have h9_14 := bx_44; unfold bd at h9_14; have h9_15 := b_98; unfold bd at h9_15; have h9_16 := b_115; unfold bd at h9_16; have h9_17 := b_102; unfold bd at h9_17; have h9_18 := b_258; unfold bd at h9_18; have h9_19 := b_100; unfold bd at h9_19; have h8_0 := kb_1; unfold bd at h8_0; have h8_1 := kb_3; unfold bd at h8_1; omega)
                                have kb_0 : bd 0 0 (0 : Int32) := ⟨by decide, by decide⟩
                                have go_ := g
                                refine g_callEv (As := [.int 0, .int 3, .int x_244]) (rest := []) ⟨hx, hb, hml, hown, hts⟩ (r_X14_need_2 l dC dI L kd tys fr_246 H.size g.2.2.2.1 a0_ ma0_ ka0_ 0 kb_0 3 x_244) (cwV 3 hts (gV_ t_2403 t_2405 t_100 t_198 t_2406) rfl rfl rfl (by decide +kernel) ⟨(Nat.le_of_ble_eq_true rfl), (Nat.le_of_ble_eq_true rfl)⟩) (pre3V g hK ma0_ ka0_ (by decide) (q := (RX14, TX14, 67)) rfl) rfl hl.1 rfl (lv_room (Nat.le_of_ble_eq_true rfl)) dX14_readParam_228 (cl_f hck_0) g hK (by decide) (by decide) (fx' := [(14, 11, a0_, .long x_253), (14, 8, a0_, .int x_244), (14, 6, a0_, .int x_236), (14, 10, a0_, .int x_229), (12, 20, q0_, .ref a_103), (14, 19, a0_, .ref a_69), (14, 18, a0_, .ref a_64), (12, 19, q0_, .ref a_43), (14, 2, a0_, .ref q0_), (14, 16, a0_, .int o_), (14, 25, a0_, .int op_), (14, 17, a0_, .int me_), (14, 20, a0_, .int pa_)]) rfl (fun xr_261 fr_261 H locs mxr_261 kxr_261 hp hMr_261 g => ?_) (fun fr_261 H locs hp hMr_261 g => ?_)
                                · have hG_262 := isV.frame hMr_261 go_.2.2.2.1 mq0_ kq0_ (by decide) (by decide) hG_250
                                  have hG_263 := FR.frame hMr_261 go_.2.2.2.1 mq0_ kq0_ (by decide) (by decide) hG_251
                                  have hG_264 := cEq.frame hMr_261 go_.2.2.2.1 ma0_ ka0_ (by decide) (by decide) hG_252
                                  subst hQ
                                  exact leavesX hempty hlocks (fun t ht hW => g_thrZ g hK mxr_261 kxr_261 ⟨hG_263, (by omega)⟩ ht hW) g.2.2.1.2.2
                                · exact hp.elim
                              · have fc_257 := nlt_f c_257
                                refine lv_iconst (v := 1) hx hb dX14_readParam_218 (by decide) ?_
                                refine lv_goto (tgt := 223) hx hb dX14_readParam_219 (by decide) ?_
                                refine lv_iconst (v := 3) hx hb dX14_readParam_223 (by decide) ?_
                                refine lv_aload_n hx hb dX14_readParam_224 rfl (lv_at hl 3 rfl) ?_
                                refine g_getk (C := RX14) (T := TX14) (N := 67) hx hb hts (mc_ inX14) hown hK g rfl 8 (by decide) rfl (hts _ (List.mem_cons_of_mem _ t_2154)) (fun _ h9 => h9) 1 rfl dX14_readParam_225 ?_
                                have hs_265 := sE_1 g 2 rfl (by have h9_0 := bme_; unfold bd at h9_0; have h9_1 := bo_; unfold bd at h9_1; have h9_2 := bop_; unfold bd at h9_2; have h9_3 := b_53; unfold bd at h9_3; have h9_4 := b_86; unfold bd at h9_4; have h9_5 := b_136; unfold bd at h9_5; have h9_6 := bx_11; unfold bd at h9_6; have h9_7 := b_235; unfold bd at h9_7; have h9_8 := h_141; unfold bd at h9_8; have h9_9 := b_10; unfold bd at h9_9; have h9_10 := h_230; unfold bd at h9_10; have h9_11 := b_243; unfold bd at h9_11; have h9_12 := bx_244; unfold bd at h9_12; have h9_13 := bx_44; unfold bd at h9_13; have h9_14 := b_98; unfold bd at h9_14; have h9_15 := b_115; unfold bd at h9_15; have h9_16 := b_102; unfold bd at h9_16; have h9_17 := b_100; unfold bd at h9_17; have h8_0 := kb_1; unfold bd at h8_0; have h8_1 := kb_3; unfold bd at h8_1; omega)
                                have go_ := g
                                refine g_callEv (As := [.int 1, .int 3, .int x_244]) (rest := []) ⟨hx, hb, hml, hown, hts⟩ (r_X14_need_3 l dC dI L kd tys fr_246 H.size g.2.2.2.1 a0_ ma0_ ka0_ 1 kb_1 3 x_244) (cwV 3 hts (gV_ t_2403 t_2405 t_100 t_198 t_2406) rfl rfl rfl (by decide +kernel) ⟨(Nat.le_of_ble_eq_true rfl), (Nat.le_of_ble_eq_true rfl)⟩) (pre3V g hK ma0_ ka0_ (by decide) (q := (RX14, TX14, 67)) rfl) rfl hl.1 rfl (lv_room (Nat.le_of_ble_eq_true rfl)) dX14_readParam_228 (cl_f hck_0) g hK (by decide) (by decide) (fx' := [(14, 11, a0_, .long x_253), (14, 8, a0_, .int x_244), (14, 6, a0_, .int x_236), (14, 10, a0_, .int x_229), (12, 20, q0_, .ref a_103), (14, 19, a0_, .ref a_69), (14, 18, a0_, .ref a_64), (12, 19, q0_, .ref a_43), (14, 2, a0_, .ref q0_), (14, 16, a0_, .int o_), (14, 25, a0_, .int op_), (14, 17, a0_, .int me_), (14, 20, a0_, .int pa_)]) rfl (fun xr_266 fr_266 H locs mxr_266 kxr_266 hp hMr_266 g => ?_) (fun fr_266 H locs hp hMr_266 g => ?_)
                                · have hG_267 := isV.frame hMr_266 go_.2.2.2.1 mq0_ kq0_ (by decide) (by decide) hG_250
                                  have hG_268 := FR.frame hMr_266 go_.2.2.2.1 mq0_ kq0_ (by decide) (by decide) hG_251
                                  have hG_269 := cEq.frame hMr_266 go_.2.2.2.1 ma0_ ka0_ (by decide) (by decide) hG_252
                                  exact hp.elim
                                · have hG_270 := isV.frame hMr_266 go_.2.2.2.1 mq0_ kq0_ (by decide) (by decide) hG_250
                                  have hG_271 := FR.frame hMr_266 go_.2.2.2.1 mq0_ kq0_ (by decide) (by decide) hG_251
                                  have hG_272 := cEq.frame hMr_266 go_.2.2.2.1 ma0_ ka0_ (by decide) (by decide) hG_252
                                  refine lv_aload_n hx hb dX14_readParam_231 rfl (lv_at hl 3 rfl) ?_
                                  refine g_getk (C := RX14) (T := TX14) (N := 67) hx hb hts (mc_ inX14) hown hK g rfl 2 (by decide) rfl (hts _ (List.mem_cons_of_mem _ t_2148)) (fun _ h9 => h9) 8 rfl dX14_readParam_232 ?_
                                  refine g_getr (K := 177) (C := RX12) (T := TX12) (N := 60) hx hb hts (mc_ inX12) hown hK g mq0_ kq0_ (by decide) rfl 21 (by decide) rfl (hts _ (List.mem_cons_of_mem _ t_1948)) (fun _ h9 => h9) rfl dX14_readParam_235 (fun a_273 ma_273 ka_273 g => ?_)
                                  refine lv_iload_n hx hb dX14_readParam_238 rfl (lv_at hl 2 rfl) ?_
                                  refine lv_iload_n hx hb dX14_readParam_239 rfl (lv_at hl 0 rfl) ?_
                                  have hb_274 : ∀ m : Nat, m < 110 → ((V_.ui 20 y_101.toNatClampNeg r_104).i 19 m).toInt ≤ 3 := (fun c hc => (isV.rng hG_270 g mq0_ kq0_ (j := 19) (K := 175) (by decide) rfl (by decide) rfl hc).2)
                                  have gp_275 := g
                                  have go_ := g
                                  refine g_iastX hx hb hK g ma_273 ka_273 (by decide) rfl (in_bd b_102 (by decide)) (bdT y_255) (by decide) dX14_readParam_240 (fun f H locs hM_276 u_278 g => ?_)
                                  have hG_277 := cEq.frame hM_276 go_.2.2.2.1 ma0_ ka0_ (by decide) (by decide) hG_272
                                  have hV_279 := isV.ui hG_270 gp_275 0 rfl mq0_ kq0_ rfl u_278
                                  have hF_280 := FR.arr hG_271 gp_275 0 rfl mq0_ kq0_ rfl rfl u_278.1
                                  have hki_281 : KI ((V_.ui 20 y_101.toNatClampNeg r_104).ui 21 y_101.toNatClampNeg y_255) δ_ o_.toNatClampNeg := KI.par hki_123 (by decide) hb_274 (by show 3 * (V_.n 27).toInt ≤ _; rw [tnZ (by have h9_0 := bme_; unfold bd at h9_0; have h9_1 := bo_; unfold bd at h9_1; have h9_2 := bop_; unfold bd at h9_2; have h9_3 := b_53; unfold bd at h9_3; have h9_4 := b_86; unfold bd at h9_4; have h9_5 := b_136; unfold bd at h9_5; have h9_6 := bx_11; unfold bd at h9_6; have h9_7 := b_235; unfold bd at h9_7; have h9_8 := h_141; unfold bd at h9_8; have h9_9 := b_10; unfold bd at h9_9; have h9_10 := h_230; unfold bd at h9_10; have h9_11 := b_243; unfold bd at h9_11; have h9_12 := bx_244; unfold bd at h9_12; have h9_13 := bx_44; unfold bd at h9_13; have h9_14 := b_98; unfold bd at h9_14; have h9_15 := b_115; unfold bd at h9_15; have h9_16 := b_102; unfold bd at h9_16; have h9_17 := b_100; unfold bd at h9_17; have h8_0 := kb_1; unfold bd at h8_0; have h8_1 := kb_3; unfold bd at h8_1; omega)]; have h9_0 := bme_; unfold bd at h9_0; have h9_1 := bo_; unfold bd at h9_1; have h9_2 := bop_; unfold bd at h9_2; have h9_3 := b_53; unfold bd at h9_3; have h9_4 := b_86; unfold bd at h9_4; have h9_5 := b_136; unfold bd at h9_5; have h9_6 := bx_11; unfold bd at h9_6; have h9_7 := b_235; unfold bd at h9_7; have h9_8 := h_141; unfold bd at h9_8; have h9_9 := b_10; unfold bd at h9_9; have h9_10 := h_230; unfold bd at h9_10; have h9_11 := b_243; unfold bd at h9_11; have h9_12 := bx_244; unfold bd at h9_12; have h9_13 := bx_44; unfold bd at h9_13; have h9_14 := b_98; unfold bd at h9_14; have h9_15 := b_115; unfold bd at h9_15; have h9_16 := b_102; unfold bd at h9_16; have h9_17 := b_100; unfold bd at h9_17; have h8_0 := kb_1; unfold bd at h8_0; have h8_1 := kb_3; unfold bd at h8_1; omega)
                                  refine lv_aload_n hx hb dX14_readParam_241 rfl (lv_at hl 3 rfl) ?_
                                  have hs_282 := sE_1 g 3 rfl (by have h9_0 := bme_; unfold bd at h9_0; have h9_1 := bo_; unfold bd at h9_1; have h9_2 := bop_; unfold bd at h9_2; have h9_3 := b_53; unfold bd at h9_3; have h9_4 := b_86; unfold bd at h9_4; have h9_5 := b_136; unfold bd at h9_5; have h9_6 := bx_11; unfold bd at h9_6; have h9_7 := b_235; unfold bd at h9_7; have h9_8 := h_141; unfold bd at h9_8; have h9_9 := b_10; unfold bd at h9_9; have h9_10 := h_230; unfold bd at h9_10; have h9_11 := b_243; unfold bd at h9_11; have h9_12 := bx_244; unfold bd at h9_12; have h9_13 := bx_44; unfold bd at h9_13; have h9_14 := b_98; unfold bd at h9_14; have h9_15 := b_115; unfold bd at h9_15; have h9_16 := b_102; unfold bd at h9_16; have h9_17 := b_100; unfold bd at h9_17; have h8_0 := kb_1; unfold bd at h8_0; have h8_1 := kb_3; unfold bd at h8_1; omega)
                                  have go_ := g
                                  refine g_callEv (As := []) (rest := []) ⟨hx, hb, hml, hown, hts⟩ (r_X14_next_2 l dC dI L kd tys f H.size g.2.2.2.1 adK adV a0_ ma0_ ka0_ x_229 h_230 (g.fcts [4] rfl)) (cwV 0 hts (gV_ t_2411 t_2413 t_102 t_198 t_2414) rfl rfl rfl (by decide +kernel) ⟨(Nat.le_of_ble_eq_true rfl), (Nat.le_of_ble_eq_true rfl)⟩) (pre3VA g hK hAm ma0_ ka0_ (by decide) (q := (RX14, TX14, 67)) rfl) rfl hl.1 rfl (lv_room (Nat.le_of_ble_eq_true rfl)) dX14_readParam_242 (cl_f hck_0) g hK (by decide) (by decide) (fx' := [(12, 21, q0_, .ref a_273), (12, 20, q0_, .ref a_103), (14, 19, a0_, .ref a_69), (14, 18, a0_, .ref a_64), (12, 19, q0_, .ref a_43), (14, 2, a0_, .ref q0_), (14, 16, a0_, .int o_), (14, 25, a0_, .int op_), (14, 17, a0_, .int me_), (14, 20, a0_, .int pa_)]) rfl (fun xr_283 fr_283 H locs mxr_283 kxr_283 hp hMr_283 g => ?_) (fun fr_283 H locs hp hMr_283 g => ?_)
                                  · have hG_284 := isV.frame hMr_283 go_.2.2.2.1 mq0_ kq0_ (by decide) (by decide) hV_279
                                    have hG_285 := FR.frame hMr_283 go_.2.2.2.1 mq0_ kq0_ (by decide) (by decide) hF_280
                                    subst hQ
                                    exact leavesX hempty hlocks (fun t ht hW => g_thrZ g hK mxr_283 kxr_283 ⟨hG_285, (by omega)⟩ ht hW) g.2.2.1.2.2
                                  · obtain ⟨hx_286, h_287, x_288, h_289, hF_290⟩ := hp
                                    have hG_291 := isV.frame hMr_283 go_.2.2.2.1 mq0_ kq0_ (by decide) (by decide) hV_279
                                    have hG_292 := FR.frame hMr_283 go_.2.2.2.1 mq0_ kq0_ (by decide) (by decide) hF_280
                                    obtain ⟨E_293, hE_293⟩ : ∃ E : Int, cEq fr_283 a0_ E := ⟨_, rfl⟩
                                    have mxE_293 : E_293 ≤ 1202 := by have h9 := cF_le g ma0_ ka0_; have h8 : cF _ _ = _ := hE_293; omega
                                    have lE_293 : E_234 + 1 ≤ E_293 := by have h9 := hx_286; have h8 : cF _ _ = _ := hE_293; have h7 : cF _ _ = _ := hG_277; have h6 := hs_282; have h5 := tk_c (f := f) (t := a0_); omega
                                    have b_294 : bd 0 1200 x_229 := eqX rfl h_230 h_287 (by decide)
                                    have g := g.more hF_290
                                    refine lv_aload_n hx hb dX14_readParam_245 rfl (lv_at hl 3 rfl) ?_
                                    refine lv_dup hx hb dX14_readParam_246 rfl ?_
                                    refine g_getk (C := RX14) (T := TX14) (N := 67) hx hb hts (mc_ inX14) hown hK g rfl 20 (by decide) rfl (hts _ (List.mem_cons_of_mem _ t_2166)) (fun _ h9 => h9) 10 rfl dX14_readParam_247 ?_
                                    refine lv_iconst (v := 1) hx hb dX14_readParam_250 (by decide) ?_
                                    refine lv_iadd hx hb dX14_readParam_251 ?_
                                    refine lv_topi (fun y_295 ey_295 => ?_)
                                    have ty_295 := add_bd ey_295 b_53 kb_1 (by decide)
                                    have b_296 : bd 1 3 y_295 := add_rg ty_295 b_53 kb_1 (by decide)
                                    have go_ := g
                                    refine g_put (C := RX14) (T := TX14) (N := 67) hx hb hts (mc_ inX14) tyX14 tyX14_ok nmX14 hown hK g ma0_ ka0_ (by decide) rfl 20 (by decide) (hts _ (List.mem_cons_of_mem _ t_2166)) (fun _ h9 => h9) rfl rfl (okV_i (bd_sub b_296 (by decide))) rfl rfl (by decide) (Or.inr (Or.inl (by decide))) (fx' := [(14, 10, a0_, .int x_288), (12, 21, q0_, .ref a_273), (12, 20, q0_, .ref a_103), (14, 19, a0_, .ref a_69), (14, 18, a0_, .ref a_64), (12, 19, q0_, .ref a_43), (14, 2, a0_, .ref q0_), (14, 16, a0_, .int o_), (14, 25, a0_, .int op_), (14, 17, a0_, .int me_)]) rfl dX14_readParam_252 (fun f H locs hM_297 g => ?_)
                                    have hG_298 := isV.frame hM_297 go_.2.2.2.1 mq0_ kq0_ (by decide) (by decide) hG_291
                                    have hG_299 := FR.frame hM_297 go_.2.2.2.1 mq0_ kq0_ (by decide) (by decide) hG_292
                                    have hG_300 := cEq.frame hM_297 go_.2.2.2.1 ma0_ ka0_ (by decide) (by decide) hE_293
                                    refine lv_aload_n hx hb dX14_readParam_255 rfl (lv_at hl 3 rfl) ?_
                                    refine g_getk (C := RX14) (T := TX14) (N := 67) hx hb hts (mc_ inX14) hown hK g rfl 2 (by decide) rfl (hts _ (List.mem_cons_of_mem _ t_2148)) (fun _ h9 => h9) 7 rfl dX14_readParam_256 ?_
                                    refine g_getk (C := RX12) (T := TX12) (N := 60) hx hb hts (mc_ inX12) hown hK g rfl 19 (by decide) rfl (hts _ (List.mem_cons_of_mem _ t_1944)) (fun _ h9 => h9) 6 rfl dX14_readParam_259 ?_
                                    refine lv_aload_n hx hb dX14_readParam_262 rfl (lv_at hl 3 rfl) ?_
                                    refine g_getk (C := RX14) (T := TX14) (N := 67) hx hb hts (mc_ inX14) hown hK g rfl 17 (by decide) rfl (hts _ (List.mem_cons_of_mem _ t_2163)) (fun _ h9 => h9) 10 rfl dX14_readParam_263 ?_
                                    refine lv_dup2_11 hx hb dX14_readParam_266 rfl rfl ?_
                                    refine g_iald hx hb hK g ma_43 ka_43 (by decide) rfl (in_bd bme_ (by decide)) dX14_readParam_267 (fun x_301 bx_301 cx_301 => ?_)
                                    have vx_301 : x_301 = ((V_.ui 20 y_101.toNatClampNeg r_104).ui 21 y_101.toNatClampNeg y_255).i 19 me_.toNatClampNeg := hG_298.at g 6 rfl rfl cx_301
                                    obtain rfl : pa_ = x_301 := hpa.trans (show x_301 = V_.i 19 me_.toNatClampNeg from vx_301).symm
                                    refine lv_iconst (v := 1) hx hb dX14_readParam_268 (by decide) ?_
                                    refine lv_iadd hx hb dX14_readParam_269 ?_
                                    refine lv_topi (fun y_302 ey_302 => ?_)
                                    obtain rfl : y_295 = y_302 := ey_295.trans ey_302.symm
                                    have gp_304 := g
                                    have go_ := g
                                    refine g_iastX hx hb hK g ma_43 ka_43 (by decide) rfl (in_bd bme_ (by decide)) (bd_sub b_296 (by decide)) (by decide) dX14_readParam_270 (fun f H locs hM_305 u_307 g => ?_)
                                    have hG_306 := cEq.frame hM_305 go_.2.2.2.1 ma0_ ka0_ (by decide) (by decide) hG_300
                                    have hV_308 := isV.ui hG_298 gp_304 6 rfl mq0_ kq0_ rfl u_307
                                    have hF_309 := FR.arr hG_299 gp_304 6 rfl mq0_ kq0_ rfl rfl u_307.1
                                    have hki_310 : KI (((V_.ui 20 y_101.toNatClampNeg r_104).ui 21 y_101.toNatClampNeg y_255).ui 19 me_.toNatClampNeg y_295) δ_ o_.toNatClampNeg := KI.new_ hki_281 (by decide) hmN
                                    have h9c : cF f a0_ = _ := hG_306
                                    have h8c : ((((V_.ui 20 y_101.toNatClampNeg r_104).ui 21 y_101.toNatClampNeg y_255).ui 19 me_.toNatClampNeg y_295).n 57).toInt = (V_.n 57).toInt ∧ ((((V_.ui 20 y_101.toNatClampNeg r_104).ui 21 y_101.toNatClampNeg y_255).ui 19 me_.toNatClampNeg y_295).n 46).toInt = (V_.n 46).toInt := ⟨rfl, rfl⟩
                                    subst hQ
                                    exact vretX hx hb hr (fun t ht hW => g_retZ g hK ⟨rfl, ⟨⟨(((V_.ui 20 y_101.toNatClampNeg r_104).ui 21 y_101.toNatClampNeg y_255).ui 19 me_.toNatClampNeg y_295), _, hV_308, hF_309, hki_310, (prP.of hlh bpa_.1 (by have h9_0 := bme_; unfold bd at h9_0; have h9_1 := bo_; unfold bd at h9_1; have h9_2 := bop_; unfold bd at h9_2; have h9_3 := b_53; unfold bd at h9_3; have h9_4 := b_86; unfold bd at h9_4; have h9_5 := b_136; unfold bd at h9_5; have h9_6 := bx_11; unfold bd at h9_6; have h9_7 := b_235; unfold bd at h9_7; have h9_8 := h_141; unfold bd at h9_8; have h9_9 := b_10; unfold bd at h9_9; have h9_10 := b_294; unfold bd at h9_10; have h9_11 := b_243; unfold bd at h9_11; have h9_12 := bx_244; unfold bd at h9_12; have h9_13 := h_289; unfold bd at h9_13; have h9_14 := bx_301; unfold bd at h9_14; have h9_15 := bx_44; unfold bd at h9_15; have h9_16 := b_98; unfold bd at h9_16; have h9_17 := b_115; unfold bd at h9_17; have h9_18 := b_102; unfold bd at h9_18; have h9_19 := b_296; unfold bd at h9_19; have h9_20 := b_100; unfold bd at h9_20; have h8_0 := kb_1; unfold bd at h8_0; have h8_1 := kb_3; unfold bd at h8_1; omega) (ix3 bme_.1 bpa_.1 (by have h9_0 := bme_; unfold bd at h9_0; have h9_1 := bo_; unfold bd at h9_1; have h9_2 := bop_; unfold bd at h9_2; have h9_3 := b_53; unfold bd at h9_3; have h9_4 := b_86; unfold bd at h9_4; have h9_5 := b_136; unfold bd at h9_5; have h9_6 := bx_11; unfold bd at h9_6; have h9_7 := b_235; unfold bd at h9_7; have h9_8 := h_141; unfold bd at h9_8; have h9_9 := b_10; unfold bd at h9_9; have h9_10 := b_294; unfold bd at h9_10; have h9_11 := b_243; unfold bd at h9_11; have h9_12 := bx_244; unfold bd at h9_12; have h9_13 := h_289; unfold bd at h9_13; have h9_14 := bx_301; unfold bd at h9_14; have h9_15 := bx_44; unfold bd at h9_15; have h9_16 := b_98; unfold bd at h9_16; have h9_17 := b_115; unfold bd at h9_17; have h9_18 := b_102; unfold bd at h9_18; have h9_19 := b_296; unfold bd at h9_19; have h9_20 := b_100; unfold bd at h9_20; have h8_0 := kb_1; unfold bd at h8_0; have h8_1 := kb_3; unfold bd at h8_1; omega)) (by have h9 : x_256 = r_104 := vx_256.trans q_124; rw [← h9]; have h9_0 := bme_; unfold bd at h9_0; have h9_1 := bo_; unfold bd at h9_1; have h9_2 := bop_; unfold bd at h9_2; have h9_3 := b_53; unfold bd at h9_3; have h9_4 := b_86; unfold bd at h9_4; have h9_5 := b_136; unfold bd at h9_5; have h9_6 := bx_11; unfold bd at h9_6; have h9_7 := b_235; unfold bd at h9_7; have h9_8 := h_141; unfold bd at h9_8; have h9_9 := b_10; unfold bd at h9_9; have h9_10 := b_294; unfold bd at h9_10; have h9_11 := b_243; unfold bd at h9_11; have h9_12 := bx_244; unfold bd at h9_12; have h9_13 := h_289; unfold bd at h9_13; have h9_14 := bx_301; unfold bd at h9_14; have h9_15 := bx_44; unfold bd at h9_15; have h9_16 := b_98; unfold bd at h9_16; have h9_17 := b_115; unfold bd at h9_17; have h9_18 := b_102; unfold bd at h9_18; have h9_19 := b_296; unfold bd at h9_19; have h9_20 := b_100; unfold bd at h9_20; have h8_0 := kb_1; unfold bd at h8_0; have h8_1 := kb_3; unfold bd at h8_1; omega)), (by omega), (by omega), (by omega), (by omega)⟩, x_288, h_289, y_295, ⟨b_296, (by have h9_0 := bme_; unfold bd at h9_0; have h9_1 := bo_; unfold bd at h9_1; have h9_2 := bop_; unfold bd at h9_2; have h9_3 := b_53; unfold bd at h9_3; have h9_4 := b_86; unfold bd at h9_4; have h9_5 := b_136; unfold bd at h9_5; have h9_6 := bx_11; unfold bd at h9_6; have h9_7 := b_235; unfold bd at h9_7; have h9_8 := h_141; unfold bd at h9_8; have h9_9 := b_10; unfold bd at h9_9; have h9_10 := b_294; unfold bd at h9_10; have h9_11 := b_243; unfold bd at h9_11; have h9_12 := bx_244; unfold bd at h9_12; have h9_13 := h_289; unfold bd at h9_13; have h9_14 := bx_301; unfold bd at h9_14; have h9_15 := bx_44; unfold bd at h9_15; have h9_16 := b_98; unfold bd at h9_16; have h9_17 := b_115; unfold bd at h9_17; have h9_18 := b_102; unfold bd at h9_18; have h9_19 := b_296; unfold bd at h9_19; have h9_20 := b_100; unfold bd at h9_20; have h8_0 := kb_1; unfold bd at h8_0; have h8_1 := kb_3; unfold bd at h8_1; omega)⟩, (g.fcts [9, 1, 0] rfl)⟩⟩ ht hW) g.2.2.1.2.2 dX14_readParam_271 hlocks
      · have b_311 : bd 0 9 r_25 := ⟨h_31.1, h_31.2.1⟩
        have hv_312 : varOK V_ r_25 o_.toNatClampNeg := Or.inl h_31
        refine lv_iconst (v := (-1)) hx hb dX14_readParam_35 (by decide) ?_
        have kb_m1 : bd (-1) (-1) ((-1) : Int32) := ⟨by decide, by decide⟩
        refine lv_icmp_ne (tgt := 43) hx hb dX14_readParam_36 (by decide) (fun c_313 => ?_) (fun c_313 => ?_)
        · have fc_313 := neq_f c_313
          refine lv_iconst (v := 0) hx hb dX14_readParam_43 (by decide) ?_
          refine lv_iconst (v := 2) hx hb dX14_readParam_44 (by decide) ?_
          refine lv_aload_n hx hb dX14_readParam_45 rfl (lv_at hl 0 rfl) ?_
          refine g_getk (C := RX14) (T := TX14) (N := 67) hx hb hts (mc_ inX14) hown hK g rfl 8 (by decide) rfl (hts _ (List.mem_cons_of_mem _ t_2154)) (fun _ h9 => h9) 2 rfl dX14_readParam_46 ?_
          have hs_314 := sE_1 g 3 rfl (by have h9_0 := bme_; unfold bd at h9_0; have h9_1 := bo_; unfold bd at h9_1; have h9_2 := bop_; unfold bd at h9_2; have h9_3 := bpa_; unfold bd at h9_3; have h9_4 := b_311; unfold bd at h9_4; have h9_5 := bt_; unfold bd at h9_5; have h9_6 := bx_11; unfold bd at h9_6; have h9_7 := b_10; unfold bd at h9_7; have h8_0 := kb_1; unfold bd at h8_0; have h8_1 := kb_m1; unfold bd at h8_1; omega)
          have kb_0 : bd 0 0 (0 : Int32) := ⟨by decide, by decide⟩
          have go_ := g
          refine g_callEv (As := [.int 0, .int 2, .int x_11]) (rest := []) ⟨hx, hb, hml, hown, hts⟩ (r_X14_need_2 l dC dI L kd tys fr_25 H.size g.2.2.2.1 a0_ ma0_ ka0_ 0 kb_0 2 x_11) (cwV 3 hts (gV_ t_2403 t_2405 t_100 t_198 t_2406) rfl rfl rfl (by decide +kernel) ⟨(Nat.le_of_ble_eq_true rfl), (Nat.le_of_ble_eq_true rfl)⟩) (pre3V g hK ma0_ ka0_ (by decide) (q := (RX14, TX14, 67)) rfl) rfl hl.1 rfl (lv_room (Nat.le_of_ble_eq_true rfl)) dX14_readParam_49 (cl_f hck_0) g hK (by decide) (by decide) (fx' := [(14, 13, a0_, .long x_23), (14, 12, a0_, .long x_22), (14, 8, a0_, .int x_11), (14, 6, a0_, .int x_2), (14, 2, a0_, .ref q0_), (14, 16, a0_, .int o_), (14, 25, a0_, .int op_), (14, 10, a0_, .int t_), (14, 17, a0_, .int me_), (14, 20, a0_, .int pa_)]) rfl (fun xr_315 fr_315 H locs mxr_315 kxr_315 hp hMr_315 g => ?_) (fun fr_315 H locs hp hMr_315 g => ?_)
          · have hG_316 := isV.frame hMr_315 go_.2.2.2.1 mq0_ kq0_ (by decide) (by decide) hG_27
            have hG_317 := FR.frame hMr_315 go_.2.2.2.1 mq0_ kq0_ (by decide) (by decide) hG_28
            have hG_318 := cEq.frame hMr_315 go_.2.2.2.1 ma0_ ka0_ (by decide) (by decide) hG_29
            have hG_319 := isN.frame hMr_315 go_.2.2.2.1 ma0_ ka0_ (by decide) (by decide) hG_30
            subst hQ
            exact leavesX hempty hlocks (fun t ht hW => g_thrZ g hK mxr_315 kxr_315 ⟨hG_317, (by omega)⟩ ht hW) g.2.2.1.2.2
          · exact hp.elim
        · have fc_313 := eq_f c_313
          have b_320 : bd 0 (-1) r_25 := eqX fc_313 b_311 kb_m1 (by decide)
          exact bd_no b_320 (by decide)
      · have b_321 : bd 1000 1002 r_25 := ⟨h_31.1, h_31.2⟩
        have hv_322 : varOK V_ r_25 o_.toNatClampNeg := Or.inr (Or.inl h_31)
        refine lv_iconst (v := (-1)) hx hb dX14_readParam_35 (by decide) ?_
        have kb_m1 : bd (-1) (-1) ((-1) : Int32) := ⟨by decide, by decide⟩
        refine lv_icmp_ne (tgt := 43) hx hb dX14_readParam_36 (by decide) (fun c_323 => ?_) (fun c_323 => ?_)
        · have fc_323 := neq_f c_323
          refine lv_iconst (v := 0) hx hb dX14_readParam_43 (by decide) ?_
          refine lv_iconst (v := 2) hx hb dX14_readParam_44 (by decide) ?_
          refine lv_aload_n hx hb dX14_readParam_45 rfl (lv_at hl 0 rfl) ?_
          refine g_getk (C := RX14) (T := TX14) (N := 67) hx hb hts (mc_ inX14) hown hK g rfl 8 (by decide) rfl (hts _ (List.mem_cons_of_mem _ t_2154)) (fun _ h9 => h9) 2 rfl dX14_readParam_46 ?_
          have hs_324 := sE_1 g 3 rfl (by have h9_0 := bme_; unfold bd at h9_0; have h9_1 := bo_; unfold bd at h9_1; have h9_2 := bop_; unfold bd at h9_2; have h9_3 := bpa_; unfold bd at h9_3; have h9_4 := b_321; unfold bd at h9_4; have h9_5 := bt_; unfold bd at h9_5; have h9_6 := bx_11; unfold bd at h9_6; have h9_7 := b_10; unfold bd at h9_7; have h8_0 := kb_1; unfold bd at h8_0; have h8_1 := kb_m1; unfold bd at h8_1; omega)
          have kb_0 : bd 0 0 (0 : Int32) := ⟨by decide, by decide⟩
          have go_ := g
          refine g_callEv (As := [.int 0, .int 2, .int x_11]) (rest := []) ⟨hx, hb, hml, hown, hts⟩ (r_X14_need_2 l dC dI L kd tys fr_25 H.size g.2.2.2.1 a0_ ma0_ ka0_ 0 kb_0 2 x_11) (cwV 3 hts (gV_ t_2403 t_2405 t_100 t_198 t_2406) rfl rfl rfl (by decide +kernel) ⟨(Nat.le_of_ble_eq_true rfl), (Nat.le_of_ble_eq_true rfl)⟩) (pre3V g hK ma0_ ka0_ (by decide) (q := (RX14, TX14, 67)) rfl) rfl hl.1 rfl (lv_room (Nat.le_of_ble_eq_true rfl)) dX14_readParam_49 (cl_f hck_0) g hK (by decide) (by decide) (fx' := [(14, 13, a0_, .long x_23), (14, 12, a0_, .long x_22), (14, 8, a0_, .int x_11), (14, 6, a0_, .int x_2), (14, 2, a0_, .ref q0_), (14, 16, a0_, .int o_), (14, 25, a0_, .int op_), (14, 10, a0_, .int t_), (14, 17, a0_, .int me_), (14, 20, a0_, .int pa_)]) rfl (fun xr_325 fr_325 H locs mxr_325 kxr_325 hp hMr_325 g => ?_) (fun fr_325 H locs hp hMr_325 g => ?_)
          · have hG_326 := isV.frame hMr_325 go_.2.2.2.1 mq0_ kq0_ (by decide) (by decide) hG_27
            have hG_327 := FR.frame hMr_325 go_.2.2.2.1 mq0_ kq0_ (by decide) (by decide) hG_28
            have hG_328 := cEq.frame hMr_325 go_.2.2.2.1 ma0_ ka0_ (by decide) (by decide) hG_29
            have hG_329 := isN.frame hMr_325 go_.2.2.2.1 ma0_ ka0_ (by decide) (by decide) hG_30
            subst hQ
            exact leavesX hempty hlocks (fun t ht hW => g_thrZ g hK mxr_325 kxr_325 ⟨hG_327, (by omega)⟩ ht hW) g.2.2.1.2.2
          · exact hp.elim
        · have fc_323 := eq_f c_323
          have b_330 : bd 1000 (-1) r_25 := eqX fc_323 b_321 kb_m1 (by decide)
          exact bd_no b_330 (by decide)
      · have b_331 : bd 2000 2007 r_25 := ⟨h_31.1, h_31.2⟩
        have hv_332 : varOK V_ r_25 o_.toNatClampNeg := Or.inr (Or.inr h_31)
        refine lv_iconst (v := (-1)) hx hb dX14_readParam_35 (by decide) ?_
        have kb_m1 : bd (-1) (-1) ((-1) : Int32) := ⟨by decide, by decide⟩
        refine lv_icmp_ne (tgt := 43) hx hb dX14_readParam_36 (by decide) (fun c_333 => ?_) (fun c_333 => ?_)
        · have fc_333 := neq_f c_333
          refine lv_iconst (v := 0) hx hb dX14_readParam_43 (by decide) ?_
          refine lv_iconst (v := 2) hx hb dX14_readParam_44 (by decide) ?_
          refine lv_aload_n hx hb dX14_readParam_45 rfl (lv_at hl 0 rfl) ?_
          refine g_getk (C := RX14) (T := TX14) (N := 67) hx hb hts (mc_ inX14) hown hK g rfl 8 (by decide) rfl (hts _ (List.mem_cons_of_mem _ t_2154)) (fun _ h9 => h9) 2 rfl dX14_readParam_46 ?_
          have hs_334 := sE_1 g 3 rfl (by have h9_0 := bme_; unfold bd at h9_0; have h9_1 := bo_; unfold bd at h9_1; have h9_2 := bop_; unfold bd at h9_2; have h9_3 := bpa_; unfold bd at h9_3; have h9_4 := b_331; unfold bd at h9_4; have h9_5 := bt_; unfold bd at h9_5; have h9_6 := bx_11; unfold bd at h9_6; have h9_7 := b_10; unfold bd at h9_7; have h8_0 := kb_1; unfold bd at h8_0; have h8_1 := kb_m1; unfold bd at h8_1; omega)
          have kb_0 : bd 0 0 (0 : Int32) := ⟨by decide, by decide⟩
          have go_ := g
          refine g_callEv (As := [.int 0, .int 2, .int x_11]) (rest := []) ⟨hx, hb, hml, hown, hts⟩ (r_X14_need_2 l dC dI L kd tys fr_25 H.size g.2.2.2.1 a0_ ma0_ ka0_ 0 kb_0 2 x_11) (cwV 3 hts (gV_ t_2403 t_2405 t_100 t_198 t_2406) rfl rfl rfl (by decide +kernel) ⟨(Nat.le_of_ble_eq_true rfl), (Nat.le_of_ble_eq_true rfl)⟩) (pre3V g hK ma0_ ka0_ (by decide) (q := (RX14, TX14, 67)) rfl) rfl hl.1 rfl (lv_room (Nat.le_of_ble_eq_true rfl)) dX14_readParam_49 (cl_f hck_0) g hK (by decide) (by decide) (fx' := [(14, 13, a0_, .long x_23), (14, 12, a0_, .long x_22), (14, 8, a0_, .int x_11), (14, 6, a0_, .int x_2), (14, 2, a0_, .ref q0_), (14, 16, a0_, .int o_), (14, 25, a0_, .int op_), (14, 10, a0_, .int t_), (14, 17, a0_, .int me_), (14, 20, a0_, .int pa_)]) rfl (fun xr_335 fr_335 H locs mxr_335 kxr_335 hp hMr_335 g => ?_) (fun fr_335 H locs hp hMr_335 g => ?_)
          · have hG_336 := isV.frame hMr_335 go_.2.2.2.1 mq0_ kq0_ (by decide) (by decide) hG_27
            have hG_337 := FR.frame hMr_335 go_.2.2.2.1 mq0_ kq0_ (by decide) (by decide) hG_28
            have hG_338 := cEq.frame hMr_335 go_.2.2.2.1 ma0_ ka0_ (by decide) (by decide) hG_29
            have hG_339 := isN.frame hMr_335 go_.2.2.2.1 ma0_ ka0_ (by decide) (by decide) hG_30
            subst hQ
            exact leavesX hempty hlocks (fun t ht hW => g_thrZ g hK mxr_335 kxr_335 ⟨hG_337, (by omega)⟩ ht hW) g.2.2.1.2.2
          · exact hp.elim
        · have fc_333 := eq_f c_333
          have b_340 : bd 2000 (-1) r_25 := eqX fc_333 b_331 kb_m1 (by decide)
          exact bd_no b_340 (by decide)
