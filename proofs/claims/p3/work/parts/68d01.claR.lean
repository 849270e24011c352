set_option maxHeartbeats 4000000 in
set_option maxRecDepth 100000 in
theorem r_X14_readClass (l : Launch) (dC : Nat → ClassId) (dI : Nat → Nat → Nat) (L : List Nat) (kd : Nat → Nat) (tys : List (ClassId × FieldType)) (f0 : Nat → va_E) (sz : Nat) (hWT : WT L kd tys f0) (adK adV : Nat → Nat) (a0_ : Nat) (ma0_ : a0_ ∈ L) (ka0_ : kd a0_ = 14) (q0_ : Nat) (mq0_ : q0_ ∈ L) (kq0_ : kd q0_ = 12) (V_ : PV) (δ_ : Nat → Nat) (op_ : Int32) (bop_ : bd 0 40 op_) (t_ : Int32) (bt_ : bd 0 1201 t_) (hV : isV f0 q0_ V_) (hKC : KC V_ δ_ (V_.n 0).toNatClampNeg) (hM0 : mN f0 q0_ (V_.n 0).toNatClampNeg) (hnn : (V_.n 57).toInt ≤ cF f0 a0_) (hns : 2 * (V_.n 46).toInt ≤ cF f0 a0_) (hn0 : 0 ≤ (V_.n 46).toInt) (K_ : Nat) (hK_ : 1204 ≤ 2 * (K_ : Int) + cF f0 a0_) (hfx : Fs L kd f0 [(14, 2, a0_, .ref q0_), (14, 25, a0_, .int op_), (14, 10, a0_, .int t_)]) : MetX l yX14_readClass (.code yX14_readClass cX14_readClass 2 none :: lw_g) ({ frames := 515, cells := K_, slots := 3 * K_, locals := 29747 }) (va_Pc [.ref a0_] (P3A (dC, dI) L tys f0 sz adK adV)) (q3Z (dC, dI) L kd tys [(12, 0), (12, 27), (12, 46), (12, 57), (12, 58), (14, 6), (14, 7), (14, 8), (14, 9), (14, 10), (14, 11), (14, 12), (14, 13), (14, 14), (14, 15), (14, 16), (14, 17), (14, 20), (14, 21), (14, 22), (14, 23), (14, 24), (14, 25), (14, 26)] [157, 158, 159, 160, 161, 162, 163, 164, 165, 166, 167, 168, 169, 170, 171, 172, 173, 174, 175, 176, 177, 178, 179, 180, 181, 182, 183, 184, 185, 186, 187, 188, 189, 190, 191, 192, 193, 194, 195, 196, 197, 198, 199, 200, 201, 202, 203, 204, 205, 206, 207, 208, 209, 210, 211, 213, 214] f0 sz (pXv (fun (f : Nat → va_E) (k : Nat) => (rdC L kd f0 a0_ q0_ V_ f k) ∧ ∃ z1_ : Int32, bd 0 1201 z1_ ∧ Fs L kd f [(14, 25, a0_, .int op_), (14, 10, a0_, .int z1_)])) (fun (f : Nat → va_E) (k : Nat) => FR L kd f0 f q0_ ∧ 2 * (k : Int) + cF f0 a0_ ≤ 1203)) (pA L sz) := by
  refine MetX.ofW (cc := cX14_readClass) (maxL := 2) (ret := none) (by decide) rfl ?_
  intro p e s m args below meth c s₁ B hml hempty hv
  obtain ⟨rfl, ⟨hsz, hP, hK, hD0⟩, hAm⟩ := hv
  have hx := B.exec
  have hb := B.bytes
  have hr := B.returns
  have hts := atoms_spec (ws := (.code yX14_readClass cX14_readClass 2 none :: lw_g)) B.pre
  have hown : s.vm.findClass RX14 = some m.cls := findClass_of_methodNamed B.named
  have hlocks := B.notSynchronized
  subst hsz
  have g : G3 (dC, dI) L kd tys s f0 [(12, 0), (12, 27), (12, 46), (12, 57), (12, 58), (14, 6), (14, 7), (14, 8), (14, 9), (14, 10), (14, 11), (14, 12), (14, 13), (14, 14), (14, 15), (14, 16), (14, 17), (14, 20), (14, 21), (14, 22), (14, 23), (14, 24), (14, 25), (14, 26)] [157, 158, 159, 160, 161, 162, 163, 164, 165, 166, 167, 168, 169, 170, 171, 172, 173, 174, 175, 176, 177, 178, 179, 180, 181, 182, 183, 184, 185, 186, 187, 188, 189, 190, 191, 192, 193, 194, 195, 196, 197, 198, 199, 200, 201, 202, 203, 204, 205, 206, 207, 208, 209, 210, 211, 213, 214] f0 s.heap [] [(14, 2, a0_, .ref q0_), (14, 25, a0_, .int op_), (14, 10, a0_, .int t_)] := G3.start hP hD0 hWT hfx
  have hl := lv_entry ([.ref a0_]) (n := 2) (Nat.le_of_ble_eq_true rfl)
  rw [lg_entry_eq]
  generalize (lg_sl ([.ref a0_]) ++ List.replicate (2 - (lg_sl ([.ref a0_])).length) Slot.unset).toArray = ls at hl ⊢
  have hl : lv_has ls 2 [(0, .ref a0_)] := hl
  refine W_q (fun Q hQ => ?_)
  refine W_c0 (fun cl_0 hc_0 => ?_)
  have hck_0 : cl_0 ≤ K_ := by omega
  have hC_0 : cEq f0 a0_ (cF f0 a0_) := rfl
  have hm_0 : cF f0 a0_ ≤ 1202 := cF_le g ma0_ ka0_
  have hm_1 : -1 ≤ cF f0 a0_ := cF_ge g ma0_ ka0_
  refine lv_aload_n hx hb dX14_readClass_0 rfl (lv_at hl 0 rfl) ?_
  refine lv_iconst (v := 0) hx hb dX14_readClass_1 (by decide) ?_
  have go_ := g
  refine g_callEv (As := [.int 0]) (rest := []) ⟨hx, hb, hml, hown, hts⟩ (r_X14_word_2 l dC dI L kd tys f0 s.heap.size g.2.2.2.1 adK adV a0_ ma0_ ka0_ 0 t_ bt_ (g.fcts [2] rfl)) (cwV 1 hts (gV_ t_2395 t_2397 t_98 t_198 t_2398) rfl rfl rfl (by decide +kernel) ⟨(Nat.le_of_ble_eq_true rfl), (Nat.le_of_ble_eq_true rfl)⟩) (pre3VA g hK hAm ma0_ ka0_ (by decide) (q := (RX14, TX14, 67)) rfl) rfl hl.1 rfl (lv_room (Nat.le_of_ble_eq_true rfl)) dX14_readClass_2 (cl_f hck_0) g hK (by decide) (by decide) (fx' := [(14, 2, a0_, .ref q0_), (14, 25, a0_, .int op_)]) rfl (fun xr_1 fr_1 H locs mxr_1 kxr_1 hp hMr_1 g => ?_) (fun fr_1 H locs hp hMr_1 g => ?_)
  · have hG_2 := isV.frame hMr_1 go_.2.2.2.1 mq0_ kq0_ (by decide) (by decide) hV
    have hG_3 := mN.frame hMr_1 go_.2.2.2.1 mq0_ kq0_ (by decide) (by decide) hM0
    have hG_4 := FR.frame hMr_1 go_.2.2.2.1 mq0_ kq0_ (by decide) (by decide) FR.refl
    subst hQ
    exact leavesX hempty hlocks (fun t ht hW => g_thrZ g hK mxr_1 kxr_1 ⟨hG_4, (by omega)⟩ ht hW) g.2.2.1.2.2
  · obtain ⟨hx_5, h_6, x_7, h_8, hF_9⟩ := hp
    have hG_10 := isV.frame hMr_1 go_.2.2.2.1 mq0_ kq0_ (by decide) (by decide) hV
    have hG_11 := mN.frame hMr_1 go_.2.2.2.1 mq0_ kq0_ (by decide) (by decide) hM0
    have hG_12 := FR.frame hMr_1 go_.2.2.2.1 mq0_ kq0_ (by decide) (by decide) FR.refl
    obtain ⟨E_13, hE_13⟩ : ∃ E : Int, cEq fr_1 a0_ E := ⟨_, rfl⟩
    have mxE_13 : E_13 ≤ 1202 := by have h9 := cF_le g ma0_ ka0_; have h8 : cF _ _ = _ := hE_13; omega
    have lE_13 : (cF f0 a0_) + 1 ≤ E_13 := by have h9 := hx_5; have h8 : cF _ _ = _ := hE_13; have h7 : cF _ _ = _ := hC_0; omega
    have b_14 : bd 0 1200 t_ := eqX rfl bt_ h_6 (by decide)
    have g := g.more hF_9
    refine lv_aload_n hx hb dX14_readClass_5 rfl (lv_at hl 0 rfl) ?_
    refine lv_aload_n hx hb dX14_readClass_6 rfl (lv_at hl 0 rfl) ?_
    refine g_geti (C := RX14) (T := TX14) (N := 67) hx hb hts (mc_ inX14) hown hK g ma0_ ka0_ (by decide) rfl 6 (by decide) rfl (hts _ (List.mem_cons_of_mem _ t_2152)) (fun _ h9 => h9) rfl dX14_readClass_7 (fun x_15 bx_15 g => ?_)
    refine lv_iconst (v := 1) hx hb dX14_readClass_10 (by decide) ?_
    have kb_1 : bd 1 1 (1 : Int32) := ⟨by decide, by decide⟩
    refine lv_icmp_ne (tgt := 18) hx hb dX14_readClass_11 (by decide) (fun c_16 => ?_) (fun c_16 => ?_)
    · have fc_16 := neq_f c_16
      refine lv_iconst (v := 0) hx hb dX14_readClass_18 (by decide) ?_
      refine lv_iconst (v := 1) hx hb dX14_readClass_19 (by decide) ?_
      refine lv_aload_n hx hb dX14_readClass_20 rfl (lv_at hl 0 rfl) ?_
      refine g_geti (C := RX14) (T := TX14) (N := 67) hx hb hts (mc_ inX14) hown hK g ma0_ ka0_ (by decide) rfl 8 (by decide) rfl (hts _ (List.mem_cons_of_mem _ t_2154)) (fun _ h9 => h9) rfl dX14_readClass_21 (fun x_17 bx_17 g => ?_)
      have kb_0 : bd 0 0 (0 : Int32) := ⟨by decide, by decide⟩
      have go_ := g
      refine g_callEv (As := [.int 0, .int 1, .int x_17]) (rest := []) ⟨hx, hb, hml, hown, hts⟩ (r_X14_need_2 l dC dI L kd tys fr_1 H.size g.2.2.2.1 a0_ ma0_ ka0_ 0 kb_0 1 x_17) (cwV 3 hts (gV_ t_2403 t_2405 t_100 t_198 t_2406) rfl rfl rfl (by decide +kernel) ⟨(Nat.le_of_ble_eq_true rfl), (Nat.le_of_ble_eq_true rfl)⟩) (pre3V g hK ma0_ ka0_ (by decide) (q := (RX14, TX14, 67)) rfl) rfl hl.1 rfl (lv_room (Nat.le_of_ble_eq_true rfl)) dX14_readClass_24 (cl_f hck_0) g hK (by decide) (by decide) (fx' := [(14, 8, a0_, .int x_17), (14, 6, a0_, .int x_15), (14, 10, a0_, .int x_7), (14, 2, a0_, .ref q0_), (14, 25, a0_, .int op_)]) rfl (fun xr_18 fr_18 H locs mxr_18 kxr_18 hp hMr_18 g => ?_) (fun fr_18 H locs hp hMr_18 g => ?_)
      · have hG_19 := isV.frame hMr_18 go_.2.2.2.1 mq0_ kq0_ (by decide) (by decide) hG_10
        have hG_20 := mN.frame hMr_18 go_.2.2.2.1 mq0_ kq0_ (by decide) (by decide) hG_11
        have hG_21 := FR.frame hMr_18 go_.2.2.2.1 mq0_ kq0_ (by decide) (by decide) hG_12
        have hG_22 := cEq.frame hMr_18 go_.2.2.2.1 ma0_ ka0_ (by decide) (by decide) hE_13
        subst hQ
        exact leavesX hempty hlocks (fun t ht hW => g_thrZ g hK mxr_18 kxr_18 ⟨hG_21, (by omega)⟩ ht hW) g.2.2.1.2.2
      · exact hp.elim
    · have fc_16 := eq_f c_16
      have b_23 : bd 1 1 x_15 := eqX fc_16 bx_15 kb_1 (by decide)
      refine lv_iconst (v := 1) hx hb dX14_readClass_14 (by decide) ?_
      refine lv_goto (tgt := 19) hx hb dX14_readClass_15 (by decide) ?_
      refine lv_iconst (v := 1) hx hb dX14_readClass_19 (by decide) ?_
      refine lv_aload_n hx hb dX14_readClass_20 rfl (lv_at hl 0 rfl) ?_
      refine g_geti (C := RX14) (T := TX14) (N := 67) hx hb hts (mc_ inX14) hown hK g ma0_ ka0_ (by decide) rfl 8 (by decide) rfl (hts _ (List.mem_cons_of_mem _ t_2154)) (fun _ h9 => h9) rfl dX14_readClass_21 (fun x_24 bx_24 g => ?_)
      have hs_25 := sE_1 g 1 rfl (by have h9_0 := bop_; unfold bd at h9_0; have h9_1 := b_14; unfold bd at h9_1; have h9_2 := b_23; unfold bd at h9_2; have h9_3 := bx_24; unfold bd at h9_3; have h9_4 := h_8; unfold bd at h9_4; have h8_0 := kb_1; unfold bd at h8_0; omega)
      have go_ := g
      refine g_callEv (As := [.int 1, .int 1, .int x_24]) (rest := []) ⟨hx, hb, hml, hown, hts⟩ (r_X14_need_3 l dC dI L kd tys fr_1 H.size g.2.2.2.1 a0_ ma0_ ka0_ 1 kb_1 1 x_24) (cwV 3 hts (gV_ t_2403 t_2405 t_100 t_198 t_2406) rfl rfl rfl (by decide +kernel) ⟨(Nat.le_of_ble_eq_true rfl), (Nat.le_of_ble_eq_true rfl)⟩) (pre3V g hK ma0_ ka0_ (by decide) (q := (RX14, TX14, 67)) rfl) rfl hl.1 rfl (lv_room (Nat.le_of_ble_eq_true rfl)) dX14_readClass_24 (cl_f hck_0) g hK (by decide) (by decide) (fx' := [(14, 8, a0_, .int x_24), (14, 6, a0_, .int x_15), (14, 10, a0_, .int x_7), (14, 2, a0_, .ref q0_), (14, 25, a0_, .int op_)]) rfl (fun xr_26 fr_26 H locs mxr_26 kxr_26 hp hMr_26 g => ?_) (fun fr_26 H locs hp hMr_26 g => ?_)
      · have hG_27 := isV.frame hMr_26 go_.2.2.2.1 mq0_ kq0_ (by decide) (by decide) hG_10
        have hG_28 := mN.frame hMr_26 go_.2.2.2.1 mq0_ kq0_ (by decide) (by decide) hG_11
        have hG_29 := FR.frame hMr_26 go_.2.2.2.1 mq0_ kq0_ (by decide) (by decide) hG_12
        have hG_30 := cEq.frame hMr_26 go_.2.2.2.1 ma0_ ka0_ (by decide) (by decide) hE_13
        exact hp.elim
      · have hG_31 := isV.frame hMr_26 go_.2.2.2.1 mq0_ kq0_ (by decide) (by decide) hG_10
        have hG_32 := mN.frame hMr_26 go_.2.2.2.1 mq0_ kq0_ (by decide) (by decide) hG_11
        have hG_33 := FR.frame hMr_26 go_.2.2.2.1 mq0_ kq0_ (by decide) (by decide) hG_12
        have hG_34 := cEq.frame hMr_26 go_.2.2.2.1 ma0_ ka0_ (by decide) (by decide) hE_13
        refine lv_aload_n hx hb dX14_readClass_27 rfl (lv_at hl 0 rfl) ?_
        refine lv_aload_n hx hb dX14_readClass_28 rfl (lv_at hl 0 rfl) ?_
        refine lv_aload_n hx hb dX14_readClass_29 rfl (lv_at hl 0 rfl) ?_
        refine g_getl (C := RX14) (T := TX14) (N := 67) hx hb hts (mc_ inX14) hown hK g ma0_ ka0_ (by decide) rfl 12 (by decide) rfl (hts _ (List.mem_cons_of_mem _ t_2158)) (fun _ h9 => h9) rfl dX14_readClass_30 (fun x_35 g => ?_)
        refine lv_aload_n hx hb dX14_readClass_33 rfl (lv_at hl 0 rfl) ?_
        refine g_getl (C := RX14) (T := TX14) (N := 67) hx hb hts (mc_ inX14) hown hK g ma0_ ka0_ (by decide) rfl 13 (by decide) rfl (hts _ (List.mem_cons_of_mem _ t_2159)) (fun _ h9 => h9) rfl dX14_readClass_34 (fun x_36 g => ?_)
        have hs_37 := sE_1 g 3 rfl (by have h9_0 := bop_; unfold bd at h9_0; have h9_1 := b_14; unfold bd at h9_1; have h9_2 := b_23; unfold bd at h9_2; have h9_3 := bx_24; unfold bd at h9_3; have h9_4 := h_8; unfold bd at h9_4; have h8_0 := kb_1; unfold bd at h8_0; omega)
        have go_ := g
        refine g_calli (va_runV (As := [.long x_35, .long x_36]) (rest := [.ref a0_]) ⟨hx, hb, hml, hown, hts⟩ (r_X14_classOf_2 l dC dI L kd tys fr_26 H.size g.2.2.2.1 a0_ ma0_ ka0_ x_35 x_36 q0_ mq0_ kq0_ V_ hG_31 (g.fcts [5] rfl)) (cwV 2 hts (gV_ t_2419 t_2421 t_104 t_198 t_2422) rfl rfl rfl (by decide +kernel) ⟨(Nat.le_of_ble_eq_true rfl), (Nat.le_of_ble_eq_true rfl)⟩) (pre3V g hK ma0_ ka0_ (by decide) (q := (RX14, TX14, 67)) rfl) rfl rfl hl.1 rfl (lv_room (Nat.le_of_ble_eq_true rfl)) dX14_readClass_37 (cl_f hck_0)) g hK (by decide) (by decide) (fx' := [(14, 13, a0_, .long x_36), (14, 12, a0_, .long x_35), (14, 8, a0_, .int x_24), (14, 6, a0_, .int x_15), (14, 10, a0_, .int x_7), (14, 2, a0_, .ref q0_), (14, 25, a0_, .int op_)]) rfl (fun r_38 fr_38 H locs hp hMr_38 g => ?_)
        rcases hp with ⟨h_39, -⟩ | ⟨hx_40, h_41, x_42, h_43, hF_44⟩
        · have hG_45 := isV.frame hMr_38 go_.2.2.2.1 mq0_ kq0_ (by decide) (by decide) hG_31
          have hG_46 := mN.frame hMr_38 go_.2.2.2.1 mq0_ kq0_ (by decide) (by decide) hG_32
          have hG_47 := FR.frame hMr_38 go_.2.2.2.1 mq0_ kq0_ (by decide) (by decide) hG_33
          have hG_48 := cEq.frame hMr_38 go_.2.2.2.1 ma0_ ka0_ (by decide) (by decide) hG_34
          obtain rfl : r_38 = (-1) := h_39
          refine lv_iconst (v := (-1)) hx hb dX14_readClass_40 (by decide) ?_
          refine lv_icmp_ne (tgt := 48) hx hb dX14_readClass_41 (by decide) (fun c_ => absurd c_ (by decide)) (fun c_ => ?_)
          refine lv_iconst (v := 1) hx hb dX14_readClass_44 (by decide) ?_
          refine lv_goto (tgt := 49) hx hb dX14_readClass_45 (by decide) ?_
          refine lv_iconst (v := 2) hx hb dX14_readClass_49 (by decide) ?_
          refine lv_aload_n hx hb dX14_readClass_50 rfl (lv_at hl 0 rfl) ?_
          refine g_getk (C := RX14) (T := TX14) (N := 67) hx hb hts (mc_ inX14) hown hK g rfl 8 (by decide) rfl (hts _ (List.mem_cons_of_mem _ t_2154)) (fun _ h9 => h9) 2 rfl dX14_readClass_51 ?_
          have hs_49 := sE_1 g 3 rfl (by have h9_0 := bop_; unfold bd at h9_0; have h9_1 := b_14; unfold bd at h9_1; have h9_2 := b_23; unfold bd at h9_2; have h9_3 := bx_24; unfold bd at h9_3; have h9_4 := h_8; unfold bd at h9_4; have h8_0 := kb_1; unfold bd at h8_0; omega)
          have go_ := g
          refine g_callEv (As := [.int 1, .int 2, .int x_24]) (rest := []) ⟨hx, hb, hml, hown, hts⟩ (r_X14_need_3 l dC dI L kd tys fr_38 H.size g.2.2.2.1 a0_ ma0_ ka0_ 1 kb_1 2 x_24) (cwV 3 hts (gV_ t_2403 t_2405 t_100 t_198 t_2406) rfl rfl rfl (by decide +kernel) ⟨(Nat.le_of_ble_eq_true rfl), (Nat.le_of_ble_eq_true rfl)⟩) (pre3V g hK ma0_ ka0_ (by decide) (q := (RX14, TX14, 67)) rfl) rfl hl.1 rfl (lv_room (Nat.le_of_ble_eq_true rfl)) dX14_readClass_54 (cl_f hck_0) g hK (by decide) (by decide) (fx' := [(14, 13, a0_, .long x_36), (14, 12, a0_, .long x_35), (14, 8, a0_, .int x_24), (14, 6, a0_, .int x_15), (14, 10, a0_, .int x_7), (14, 2, a0_, .ref q0_), (14, 25, a0_, .int op_)]) rfl (fun xr_50 fr_50 H locs mxr_50 kxr_50 hp hMr_50 g => ?_) (fun fr_50 H locs hp hMr_50 g => ?_)
          · have hG_51 := isV.frame hMr_50 go_.2.2.2.1 mq0_ kq0_ (by decide) (by decide) hG_45
            have hG_52 := mN.frame hMr_50 go_.2.2.2.1 mq0_ kq0_ (by decide) (by decide) hG_46
            have hG_53 := FR.frame hMr_50 go_.2.2.2.1 mq0_ kq0_ (by decide) (by decide) hG_47
            have hG_54 := cEq.frame hMr_50 go_.2.2.2.1 ma0_ ka0_ (by decide) (by decide) hG_48
            exact hp.elim
          · have hG_55 := isV.frame hMr_50 go_.2.2.2.1 mq0_ kq0_ (by decide) (by decide) hG_45
            have hG_56 := mN.frame hMr_50 go_.2.2.2.1 mq0_ kq0_ (by decide) (by decide) hG_46
            have hG_57 := FR.frame hMr_50 go_.2.2.2.1 mq0_ kq0_ (by decide) (by decide) hG_47
            have hG_58 := cEq.frame hMr_50 go_.2.2.2.1 ma0_ ka0_ (by decide) (by decide) hG_48
            refine lv_aload_n hx hb dX14_readClass_57 rfl (lv_at hl 0 rfl) ?_
            refine lv_aload_n hx hb dX14_readClass_58 rfl (lv_at hl 0 rfl) ?_
            refine g_getk (C := RX14) (T := TX14) (N := 67) hx hb hts (mc_ inX14) hown hK g rfl 2 (by decide) rfl (hts _ (List.mem_cons_of_mem _ t_2148)) (fun _ h9 => h9) 5 rfl dX14_readClass_59 ?_
            refine g_geti (C := RX12) (T := TX12) (N := 60) hx hb hts (mc_ inX12) hown hK g mq0_ kq0_ (by decide) rfl 0 (by decide) rfl (hts _ (List.mem_cons_of_mem _ t_1906)) (fun _ h9 => h9) rfl dX14_readClass_62 (fun x_59 bx_59 g => ?_)
            have hn_60 := hG_55.nn g 0 rfl rfl
            refine lv_bipush (v := 8) hx hb dX14_readClass_65 (by decide) ?_
            have kb_8 : bd 8 8 (8 : Int32) := ⟨by decide, by decide⟩
            refine lv_icmp_ge (tgt := 74) hx hb dX14_readClass_67 (by decide) (fun c_61 => ?_) (fun c_61 => ?_)
            · have fc_61 := le_f c_61
              have b_62 : bd 8 8 x_59 := leR fc_61 kb_8 bx_59 (by decide)
              refine lv_iconst (v := 0) hx hb dX14_readClass_74 (by decide) ?_
              refine lv_iconst (v := 4) hx hb dX14_readClass_75 (by decide) ?_
              refine lv_aload_n hx hb dX14_readClass_76 rfl (lv_at hl 0 rfl) ?_
              refine g_getk (C := RX14) (T := TX14) (N := 67) hx hb hts (mc_ inX14) hown hK g rfl 8 (by decide) rfl (hts _ (List.mem_cons_of_mem _ t_2154)) (fun _ h9 => h9) 3 rfl dX14_readClass_77 ?_
              have hs_63 := sE_1 g 4 rfl (by have h9_0 := bop_; unfold bd at h9_0; have h9_1 := b_14; unfold bd at h9_1; have h9_2 := b_23; unfold bd at h9_2; have h9_3 := bx_24; unfold bd at h9_3; have h9_4 := b_62; unfold bd at h9_4; have h9_5 := h_8; unfold bd at h9_5; have h8_0 := kb_1; unfold bd at h8_0; have h8_1 := kb_8; unfold bd at h8_1; omega)
              have kb_0 : bd 0 0 (0 : Int32) := ⟨by decide, by decide⟩
              have go_ := g
              refine g_callEv (As := [.int 0, .int 4, .int x_24]) (rest := []) ⟨hx, hb, hml, hown, hts⟩ (r_X14_need_2 l dC dI L kd tys fr_50 H.size g.2.2.2.1 a0_ ma0_ ka0_ 0 kb_0 4 x_24) (cwV 3 hts (gV_ t_2403 t_2405 t_100 t_198 t_2406) rfl rfl rfl (by decide +kernel) ⟨(Nat.le_of_ble_eq_true rfl), (Nat.le_of_ble_eq_true rfl)⟩) (pre3V g hK ma0_ ka0_ (by decide) (q := (RX14, TX14, 67)) rfl) rfl hl.1 rfl (lv_room (Nat.le_of_ble_eq_true rfl)) dX14_readClass_80 (cl_f hck_0) g hK (by decide) (by decide) (fx' := [(12, 0, q0_, .int x_59), (14, 13, a0_, .long x_36), (14, 12, a0_, .long x_35), (14, 8, a0_, .int x_24), (14, 6, a0_, .int x_15), (14, 10, a0_, .int x_7), (14, 2, a0_, .ref q0_), (14, 25, a0_, .int op_)]) rfl (fun xr_64 fr_64 H locs mxr_64 kxr_64 hp hMr_64 g => ?_) (fun fr_64 H locs hp hMr_64 g => ?_)
              · have hG_65 := isV.frame hMr_64 go_.2.2.2.1 mq0_ kq0_ (by decide) (by decide) hG_55
                have hG_66 := mN.frame hMr_64 go_.2.2.2.1 mq0_ kq0_ (by decide) (by decide) hG_56
                have hG_67 := FR.frame hMr_64 go_.2.2.2.1 mq0_ kq0_ (by decide) (by decide) hG_57
                have hG_68 := cEq.frame hMr_64 go_.2.2.2.1 ma0_ ka0_ (by decide) (by decide) hG_58
                subst hQ
                exact leavesX hempty hlocks (fun t ht hW => g_thrZ g hK mxr_64 kxr_64 ⟨hG_67, (by omega)⟩ ht hW) g.2.2.1.2.2
              · exact hp.elim
            · have fc_61 := nle_f c_61
              have b_69 : bd 0 7 x_59 := ltL fc_61 bx_59 kb_8 (by decide)
              refine lv_iconst (v := 1) hx hb dX14_readClass_70 (by decide) ?_
              refine lv_goto (tgt := 75) hx hb dX14_readClass_71 (by decide) ?_
              refine lv_iconst (v := 4) hx hb dX14_readClass_75 (by decide) ?_
              refine lv_aload_n hx hb dX14_readClass_76 rfl (lv_at hl 0 rfl) ?_
              refine g_getk (C := RX14) (T := TX14) (N := 67) hx hb hts (mc_ inX14) hown hK g rfl 8 (by decide) rfl (hts _ (List.mem_cons_of_mem _ t_2154)) (fun _ h9 => h9) 3 rfl dX14_readClass_77 ?_
              have hs_70 := sE_1 g 4 rfl (by have h9_0 := bop_; unfold bd at h9_0; have h9_1 := b_14; unfold bd at h9_1; have h9_2 := b_23; unfold bd at h9_2; have h9_3 := bx_24; unfold bd at h9_3; have h9_4 := b_69; unfold bd at h9_4; have h9_5 := h_8; unfold bd at h9_5; have h8_0 := kb_1; unfold bd at h8_0; have h8_1 := kb_8; unfold bd at h8_1; omega)
              have go_ := g
              refine g_callEv (As := [.int 1, .int 4, .int x_24]) (rest := []) ⟨hx, hb, hml, hown, hts⟩ (r_X14_need_3 l dC dI L kd tys fr_50 H.size g.2.2.2.1 a0_ ma0_ ka0_ 1 kb_1 4 x_24) (cwV 3 hts (gV_ t_2403 t_2405 t_100 t_198 t_2406) rfl rfl rfl (by decide +kernel) ⟨(Nat.le_of_ble_eq_true rfl), (Nat.le_of_ble_eq_true rfl)⟩) (pre3V g hK ma0_ ka0_ (by decide) (q := (RX14, TX14, 67)) rfl) rfl hl.1 rfl (lv_room (Nat.le_of_ble_eq_true rfl)) dX14_readClass_80 (cl_f hck_0) g hK (by decide) (by decide) (fx' := [(12, 0, q0_, .int x_59), (14, 13, a0_, .long x_36), (14, 12, a0_, .long x_35), (14, 8, a0_, .int x_24), (14, 6, a0_, .int x_15), (14, 10, a0_, .int x_7), (14, 2, a0_, .ref q0_), (14, 25, a0_, .int op_)]) rfl (fun xr_71 fr_71 H locs mxr_71 kxr_71 hp hMr_71 g => ?_) (fun fr_71 H locs hp hMr_71 g => ?_)
              · have hG_72 := isV.frame hMr_71 go_.2.2.2.1 mq0_ kq0_ (by decide) (by decide) hG_55
                have hG_73 := mN.frame hMr_71 go_.2.2.2.1 mq0_ kq0_ (by decide) (by decide) hG_56
                have hG_74 := FR.frame hMr_71 go_.2.2.2.1 mq0_ kq0_ (by decide) (by decide) hG_57
                have hG_75 := cEq.frame hMr_71 go_.2.2.2.1 ma0_ ka0_ (by decide) (by decide) hG_58
                exact hp.elim
              · have hG_76 := isV.frame hMr_71 go_.2.2.2.1 mq0_ kq0_ (by decide) (by decide) hG_55
                have hG_77 := mN.frame hMr_71 go_.2.2.2.1 mq0_ kq0_ (by decide) (by decide) hG_56
                have hG_78 := FR.frame hMr_71 go_.2.2.2.1 mq0_ kq0_ (by decide) (by decide) hG_57
                have hG_79 := cEq.frame hMr_71 go_.2.2.2.1 ma0_ ka0_ (by decide) (by decide) hG_58
                refine lv_aload_n hx hb dX14_readClass_83 rfl (lv_at hl 0 rfl) ?_
                refine lv_aload_n hx hb dX14_readClass_84 rfl (lv_at hl 0 rfl) ?_
                refine g_getk (C := RX14) (T := TX14) (N := 67) hx hb hts (mc_ inX14) hown hK g rfl 2 (by decide) rfl (hts _ (List.mem_cons_of_mem _ t_2148)) (fun _ h9 => h9) 6 rfl dX14_readClass_85 ?_
                refine g_getk (C := RX12) (T := TX12) (N := 60) hx hb hts (mc_ inX12) hown hK g rfl 0 (by decide) rfl (hts _ (List.mem_cons_of_mem _ t_1906)) (fun _ h9 => h9) 0 rfl dX14_readClass_88 ?_
                have go_ := g
                refine g_put (C := RX14) (T := TX14) (N := 67) hx hb hts (mc_ inX14) tyX14 tyX14_ok nmX14 hown hK g ma0_ ka0_ (by decide) rfl 16 (by decide) (hts _ (List.mem_cons_of_mem _ t_2162)) (fun _ h9 => h9) rfl rfl (okV_i b_69) rfl rfl (by decide) (Or.inr (Or.inl (by decide))) (fx' := [(12, 0, q0_, .int x_59), (14, 13, a0_, .long x_36), (14, 12, a0_, .long x_35), (14, 8, a0_, .int x_24), (14, 6, a0_, .int x_15), (14, 10, a0_, .int x_7), (14, 2, a0_, .ref q0_), (14, 25, a0_, .int op_)]) rfl dX14_readClass_91 (fun f H locs hM_80 g => ?_)
                have hG_81 := isV.frame hM_80 go_.2.2.2.1 mq0_ kq0_ (by decide) (by decide) hG_76
                have hG_82 := mN.frame hM_80 go_.2.2.2.1 mq0_ kq0_ (by decide) (by decide) hG_77
                have hG_83 := FR.frame hM_80 go_.2.2.2.1 mq0_ kq0_ (by decide) (by decide) hG_78
                have hG_84 := cEq.frame hM_80 go_.2.2.2.1 ma0_ ka0_ (by decide) (by decide) hG_79
                have ho7 : x_59.toNatClampNeg < 8 ∧ (x_59.toNatClampNeg : Int) = x_59.toInt := by have h9 := tnZ b_69.1; have h8 := b_69.2; omega
                have hb_85 : ∀ c : Nat, c < 9 → (V_.i 15 c).toInt ≤ 12 := (fun c hc => (isV.rng hG_81 g mq0_ kq0_ (j := 15) (K := 171) (by decide) rfl (by decide) rfl hc).2)
                have hb_86 : ∀ c : Nat, c < 9 → (V_.i 4 c).toInt ≤ 10 := (fun c hc => (isV.rng hG_81 g mq0_ kq0_ (j := 4) (K := 160) (by decide) rfl (by decide) rfl hc).2)
                have hb_87 : ∀ c : Nat, c < 9 → (V_.i 13 c).toInt ≤ 8 := (fun c hc => (isV.rng hG_81 g mq0_ kq0_ (j := 13) (K := 169) (by decide) rfl (by decide) rfl hc).2)
                refine lv_aload_n hx hb dX14_readClass_94 rfl (lv_at hl 0 rfl) ?_
                refine g_getk (C := RX14) (T := TX14) (N := 67) hx hb hts (mc_ inX14) hown hK g rfl 2 (by decide) rfl (hts _ (List.mem_cons_of_mem _ t_2148)) (fun _ h9 => h9) 7 rfl dX14_readClass_95 ?_
                refine g_getr (K := 157) (C := RX12) (T := TX12) (N := 60) hx hb hts (mc_ inX12) hown hK g mq0_ kq0_ (by decide) rfl 1 (by decide) rfl (hts _ (List.mem_cons_of_mem _ t_1908)) (fun _ h9 => h9) rfl dX14_readClass_98 (fun a_88 ma_88 ka_88 g => ?_)
                refine lv_aload_n hx hb dX14_readClass_101 rfl (lv_at hl 0 rfl) ?_
                refine g_getk (C := RX14) (T := TX14) (N := 67) hx hb hts (mc_ inX14) hown hK g rfl 16 (by decide) rfl (hts _ (List.mem_cons_of_mem _ t_2162)) (fun _ h9 => h9) 1 rfl dX14_readClass_102 ?_
                refine lv_aload_n hx hb dX14_readClass_105 rfl (lv_at hl 0 rfl) ?_
                refine g_getk (C := RX14) (T := TX14) (N := 67) hx hb hts (mc_ inX14) hown hK g rfl 12 (by decide) rfl (hts _ (List.mem_cons_of_mem _ t_2158)) (fun _ h9 => h9) 4 rfl dX14_readClass_106 ?_
                have gp_89 := g
                have go_ := g
                refine g_lastX hx hb hK g ma_88 ka_88 (by decide) rfl (in_bd b_69 (by decide)) (by decide) dX14_readClass_109 (fun f H locs hM_90 u_93 g => ?_)
                have hG_91 := mN.frame hM_90 go_.2.2.2.1 mq0_ kq0_ (by decide) (by decide) hG_82
                have hG_92 := cEq.frame hM_90 go_.2.2.2.1 ma0_ ka0_ (by decide) (by decide) hG_84
                have hV_94 := isV.ul hG_81 gp_89 0 rfl mq0_ kq0_ rfl u_93
                have hF_95 := FR.arr hG_83 gp_89 0 rfl mq0_ kq0_ rfl rfl u_93.1
                refine lv_aload_n hx hb dX14_readClass_110 rfl (lv_at hl 0 rfl) ?_
                refine g_getk (C := RX14) (T := TX14) (N := 67) hx hb hts (mc_ inX14) hown hK g rfl 2 (by decide) rfl (hts _ (List.mem_cons_of_mem _ t_2148)) (fun _ h9 => h9) 8 rfl dX14_readClass_111 ?_
                refine g_getr (K := 158) (C := RX12) (T := TX12) (N := 60) hx hb hts (mc_ inX12) hown hK g mq0_ kq0_ (by decide) rfl 2 (by decide) rfl (hts _ (List.mem_cons_of_mem _ t_1910)) (fun _ h9 => h9) rfl dX14_readClass_114 (fun a_96 ma_96 ka_96 g => ?_)
                refine lv_aload_n hx hb dX14_readClass_117 rfl (lv_at hl 0 rfl) ?_
                refine g_getk (C := RX14) (T := TX14) (N := 67) hx hb hts (mc_ inX14) hown hK g rfl 16 (by decide) rfl (hts _ (List.mem_cons_of_mem _ t_2162)) (fun _ h9 => h9) 2 rfl dX14_readClass_118 ?_
                refine lv_aload_n hx hb dX14_readClass_121 rfl (lv_at hl 0 rfl) ?_
                refine g_getk (C := RX14) (T := TX14) (N := 67) hx hb hts (mc_ inX14) hown hK g rfl 13 (by decide) rfl (hts _ (List.mem_cons_of_mem _ t_2159)) (fun _ h9 => h9) 4 rfl dX14_readClass_122 ?_
                have gp_97 := g
                have go_ := g
                refine g_lastX hx hb hK g ma_96 ka_96 (by decide) rfl (in_bd b_69 (by decide)) (by decide) dX14_readClass_125 (fun f H locs hM_98 u_101 g => ?_)
                have hG_99 := mN.frame hM_98 go_.2.2.2.1 mq0_ kq0_ (by decide) (by decide) hG_91
                have hG_100 := cEq.frame hM_98 go_.2.2.2.1 ma0_ ka0_ (by decide) (by decide) hG_92
                have hV_102 := isV.ul hV_94 gp_97 0 rfl mq0_ kq0_ rfl u_101
                have hF_103 := FR.arr hF_95 gp_97 0 rfl mq0_ kq0_ rfl rfl u_101.1
                refine lv_aload_n hx hb dX14_readClass_126 rfl (lv_at hl 0 rfl) ?_
                refine g_getk (C := RX14) (T := TX14) (N := 67) hx hb hts (mc_ inX14) hown hK g rfl 2 (by decide) rfl (hts _ (List.mem_cons_of_mem _ t_2148)) (fun _ h9 => h9) 9 rfl dX14_readClass_127 ?_
                refine g_getr (K := 159) (C := RX12) (T := TX12) (N := 60) hx hb hts (mc_ inX12) hown hK g mq0_ kq0_ (by decide) rfl 3 (by decide) rfl (hts _ (List.mem_cons_of_mem _ t_1912)) (fun _ h9 => h9) rfl dX14_readClass_130 (fun a_104 ma_104 ka_104 g => ?_)
                refine lv_aload_n hx hb dX14_readClass_133 rfl (lv_at hl 0 rfl) ?_
                refine g_getk (C := RX14) (T := TX14) (N := 67) hx hb hts (mc_ inX14) hown hK g rfl 16 (by decide) rfl (hts _ (List.mem_cons_of_mem _ t_2162)) (fun _ h9 => h9) 3 rfl dX14_readClass_134 ?_
                refine lv_iconst (v := (-1)) hx hb dX14_readClass_137 (by decide) ?_
                have gp_105 := g
                have kb_m1 : bd (-1) (-1) ((-1) : Int32) := ⟨by decide, by decide⟩
                have go_ := g
                refine g_iastX hx hb hK g ma_104 ka_104 (by decide) rfl (in_bd b_69 (by decide)) (bd_sub kb_m1 (by decide)) (by decide) dX14_readClass_138 (fun f H locs hM_106 u_109 g => ?_)
                have hG_107 := mN.frame hM_106 go_.2.2.2.1 mq0_ kq0_ (by decide) (by decide) hG_99
                have hG_108 := cEq.frame hM_106 go_.2.2.2.1 ma0_ ka0_ (by decide) (by decide) hG_100
                have hV_110 := isV.ui hV_102 gp_105 0 rfl mq0_ kq0_ rfl u_109
                have hF_111 := FR.arr hF_103 gp_105 0 rfl mq0_ kq0_ rfl rfl u_109.1
                refine lv_aload_n hx hb dX14_readClass_139 rfl (lv_at hl 0 rfl) ?_
                refine g_getk (C := RX14) (T := TX14) (N := 67) hx hb hts (mc_ inX14) hown hK g rfl 2 (by decide) rfl (hts _ (List.mem_cons_of_mem _ t_2148)) (fun _ h9 => h9) 10 rfl dX14_readClass_140 ?_
                refine g_getr (K := 160) (C := RX12) (T := TX12) (N := 60) hx hb hts (mc_ inX12) hown hK g mq0_ kq0_ (by decide) rfl 4 (by decide) rfl (hts _ (List.mem_cons_of_mem _ t_1914)) (fun _ h9 => h9) rfl dX14_readClass_143 (fun a_112 ma_112 ka_112 g => ?_)
                refine lv_aload_n hx hb dX14_readClass_146 rfl (lv_at hl 0 rfl) ?_
                refine g_getk (C := RX14) (T := TX14) (N := 67) hx hb hts (mc_ inX14) hown hK g rfl 16 (by decide) rfl (hts _ (List.mem_cons_of_mem _ t_2162)) (fun _ h9 => h9) 4 rfl dX14_readClass_147 ?_
                refine lv_iconst (v := 0) hx hb dX14_readClass_150 (by decide) ?_
                have gp_113 := g
                have kb_0 : bd 0 0 (0 : Int32) := ⟨by decide, by decide⟩
                have go_ := g
                refine g_iastX hx hb hK g ma_112 ka_112 (by decide) rfl (in_bd b_69 (by decide)) (bd_sub kb_0 (by decide)) (by decide) dX14_readClass_151 (fun f H locs hM_114 u_117 g => ?_)
                have hG_115 := mN.frame hM_114 go_.2.2.2.1 mq0_ kq0_ (by decide) (by decide) hG_107
                have hG_116 := cEq.frame hM_114 go_.2.2.2.1 ma0_ ka0_ (by decide) (by decide) hG_108
                have hV_118 := isV.ui hV_110 gp_113 0 rfl mq0_ kq0_ rfl u_117
                have hF_119 := FR.arr hF_111 gp_113 0 rfl mq0_ kq0_ rfl rfl u_117.1
                refine lv_aload_n hx hb dX14_readClass_152 rfl (lv_at hl 0 rfl) ?_
                refine g_getk (C := RX14) (T := TX14) (N := 67) hx hb hts (mc_ inX14) hown hK g rfl 2 (by decide) rfl (hts _ (List.mem_cons_of_mem _ t_2148)) (fun _ h9 => h9) 11 rfl dX14_readClass_153 ?_
                refine g_getr (K := 161) (C := RX12) (T := TX12) (N := 60) hx hb hts (mc_ inX12) hown hK g mq0_ kq0_ (by decide) rfl 5 (by decide) rfl (hts _ (List.mem_cons_of_mem _ t_1916)) (fun _ h9 => h9) rfl dX14_readClass_156 (fun a_120 ma_120 ka_120 g => ?_)
                refine lv_aload_n hx hb dX14_readClass_159 rfl (lv_at hl 0 rfl) ?_
                refine g_getk (C := RX14) (T := TX14) (N := 67) hx hb hts (mc_ inX14) hown hK g rfl 16 (by decide) rfl (hts _ (List.mem_cons_of_mem _ t_2162)) (fun _ h9 => h9) 5 rfl dX14_readClass_160 ?_
                refine lv_iconst (v := 0) hx hb dX14_readClass_163 (by decide) ?_
                have gp_121 := g
                have go_ := g
                refine g_iastX hx hb hK g ma_120 ka_120 (by decide) rfl (in_bd b_69 (by decide)) (bd_sub kb_0 (by decide)) (by decide) dX14_readClass_164 (fun f H locs hM_122 u_125 g => ?_)
                have hG_123 := mN.frame hM_122 go_.2.2.2.1 mq0_ kq0_ (by decide) (by decide) hG_115
                have hG_124 := cEq.frame hM_122 go_.2.2.2.1 ma0_ ka0_ (by decide) (by decide) hG_116
                have hV_126 := isV.ui hV_118 gp_121 0 rfl mq0_ kq0_ rfl u_125
                have hF_127 := FR.arr hF_119 gp_121 0 rfl mq0_ kq0_ rfl rfl u_125.1
                refine lv_aload_n hx hb dX14_readClass_165 rfl (lv_at hl 0 rfl) ?_
                refine g_getk (C := RX14) (T := TX14) (N := 67) hx hb hts (mc_ inX14) hown hK g rfl 2 (by decide) rfl (hts _ (List.mem_cons_of_mem _ t_2148)) (fun _ h9 => h9) 12 rfl dX14_readClass_166 ?_
                refine g_getr (K := 169) (C := RX12) (T := TX12) (N := 60) hx hb hts (mc_ inX12) hown hK g mq0_ kq0_ (by decide) rfl 13 (by decide) rfl (hts _ (List.mem_cons_of_mem _ t_1932)) (fun _ h9 => h9) rfl dX14_readClass_169 (fun a_128 ma_128 ka_128 g => ?_)
                refine lv_aload_n hx hb dX14_readClass_172 rfl (lv_at hl 0 rfl) ?_
                refine g_getk (C := RX14) (T := TX14) (N := 67) hx hb hts (mc_ inX14) hown hK g rfl 16 (by decide) rfl (hts _ (List.mem_cons_of_mem _ t_2162)) (fun _ h9 => h9) 6 rfl dX14_readClass_173 ?_
                refine lv_iconst (v := 0) hx hb dX14_readClass_176 (by decide) ?_
                have gp_129 := g
                have go_ := g
                refine g_iastX hx hb hK g ma_128 ka_128 (by decide) rfl (in_bd b_69 (by decide)) (bd_sub kb_0 (by decide)) (by decide) dX14_readClass_177 (fun f H locs hM_130 u_133 g => ?_)
                have hG_131 := mN.frame hM_130 go_.2.2.2.1 mq0_ kq0_ (by decide) (by decide) hG_123
                have hG_132 := cEq.frame hM_130 go_.2.2.2.1 ma0_ ka0_ (by decide) (by decide) hG_124
                have hV_134 := isV.ui hV_126 gp_129 0 rfl mq0_ kq0_ rfl u_133
                have hF_135 := FR.arr hF_127 gp_129 0 rfl mq0_ kq0_ rfl rfl u_133.1
                refine lv_aload_n hx hb dX14_readClass_178 rfl (lv_at hl 0 rfl) ?_
                refine g_getk (C := RX14) (T := TX14) (N := 67) hx hb hts (mc_ inX14) hown hK g rfl 2 (by decide) rfl (hts _ (List.mem_cons_of_mem _ t_2148)) (fun _ h9 => h9) 13 rfl dX14_readClass_179 ?_
                refine g_getr (K := 171) (C := RX12) (T := TX12) (N := 60) hx hb hts (mc_ inX12) hown hK g mq0_ kq0_ (by decide) rfl 15 (by decide) rfl (hts _ (List.mem_cons_of_mem _ t_1936)) (fun _ h9 => h9) rfl dX14_readClass_182 (fun a_136 ma_136 ka_136 g => ?_)
                refine lv_aload_n hx hb dX14_readClass_185 rfl (lv_at hl 0 rfl) ?_
                refine g_getk (C := RX14) (T := TX14) (N := 67) hx hb hts (mc_ inX14) hown hK g rfl 16 (by decide) rfl (hts _ (List.mem_cons_of_mem _ t_2162)) (fun _ h9 => h9) 7 rfl dX14_readClass_186 ?_
                refine lv_iconst (v := 0) hx hb dX14_readClass_189 (by decide) ?_
                have gp_137 := g
                have go_ := g
                refine g_iastX hx hb hK g ma_136 ka_136 (by decide) rfl (in_bd b_69 (by decide)) (bd_sub kb_0 (by decide)) (by decide) dX14_readClass_190 (fun f H locs hM_138 u_141 g => ?_)
                have hG_139 := mN.frame hM_138 go_.2.2.2.1 mq0_ kq0_ (by decide) (by decide) hG_131
                have hG_140 := cEq.frame hM_138 go_.2.2.2.1 ma0_ ka0_ (by decide) (by decide) hG_132
                have hV_142 := isV.ui hV_134 gp_137 0 rfl mq0_ kq0_ rfl u_141
                have hF_143 := FR.arr hF_135 gp_137 0 rfl mq0_ kq0_ rfl rfl u_141.1
                have hkc_144 : KC (((((((V_.ul 1 x_59.toNatClampNeg x_35).ul 2 x_59.toNatClampNeg x_36).ui 3 x_59.toNatClampNeg ((-1) : Int32)).ui 4 x_59.toNatClampNeg (0 : Int32)).ui 5 x_59.toNatClampNeg (0 : Int32)).ui 13 x_59.toNatClampNeg (0 : Int32)).ui 15 x_59.toNatClampNeg (0 : Int32)) δ_ x_59.toNatClampNeg := KC.head (by rw [hn_60]; exact hKC) hb_85 hb_86 hb_87
                have hhd_145 : ((((((((V_.ul 1 x_59.toNatClampNeg x_35).ul 2 x_59.toNatClampNeg x_36).ui 3 x_59.toNatClampNeg ((-1) : Int32)).ui 4 x_59.toNatClampNeg (0 : Int32)).ui 5 x_59.toNatClampNeg (0 : Int32)).ui 13 x_59.toNatClampNeg (0 : Int32)).ui 15 x_59.toNatClampNeg (0 : Int32)).i 13 x_59.toNatClampNeg).toInt = 0 ∧ ((((((((V_.ul 1 x_59.toNatClampNeg x_35).ul 2 x_59.toNatClampNeg x_36).ui 3 x_59.toNatClampNeg ((-1) : Int32)).ui 4 x_59.toNatClampNeg (0 : Int32)).ui 5 x_59.toNatClampNeg (0 : Int32)).ui 13 x_59.toNatClampNeg (0 : Int32)).ui 15 x_59.toNatClampNeg (0 : Int32)).i 3 x_59.toNatClampNeg).toInt = -1 ∧ ((((((((V_.ul 1 x_59.toNatClampNeg x_35).ul 2 x_59.toNatClampNeg x_36).ui 3 x_59.toNatClampNeg ((-1) : Int32)).ui 4 x_59.toNatClampNeg (0 : Int32)).ui 5 x_59.toNatClampNeg (0 : Int32)).ui 13 x_59.toNatClampNeg (0 : Int32)).ui 15 x_59.toNatClampNeg (0 : Int32)).i 4 x_59.toNatClampNeg).toInt = 0 ∧ ((((((((V_.ul 1 x_59.toNatClampNeg x_35).ul 2 x_59.toNatClampNeg x_36).ui 3 x_59.toNatClampNeg ((-1) : Int32)).ui 4 x_59.toNatClampNeg (0 : Int32)).ui 5 x_59.toNatClampNeg (0 : Int32)).ui 13 x_59.toNatClampNeg (0 : Int32)).ui 15 x_59.toNatClampNeg (0 : Int32)).i 15 x_59.toNatClampNeg).toInt = 0 := hd_at (by decide) (by decide) (by decide) (by decide)
                refine lv_aload_n hx hb dX14_readClass_191 rfl (lv_at hl 0 rfl) ?_
                refine g_getk (C := RX14) (T := TX14) (N := 67) hx hb hts (mc_ inX14) hown hK g rfl 2 (by decide) rfl (hts _ (List.mem_cons_of_mem _ t_2148)) (fun _ h9 => h9) 14 rfl dX14_readClass_192 ?_
                refine g_getr (K := 211) (C := RX12) (T := TX12) (N := 60) hx hb hts (mc_ inX12) hown hK g mq0_ kq0_ (by decide) rfl 59 (by decide) rfl (hts _ (List.mem_cons_of_mem _ t_2020)) (fun _ h9 => h9) rfl dX14_readClass_195 (fun a_146 ma_146 ka_146 g => ?_)
                refine lv_aload_n hx hb dX14_readClass_198 rfl (lv_at hl 0 rfl) ?_
                refine g_getk (C := RX14) (T := TX14) (N := 67) hx hb hts (mc_ inX14) hown hK g rfl 16 (by decide) rfl (hts _ (List.mem_cons_of_mem _ t_2162)) (fun _ h9 => h9) 8 rfl dX14_readClass_199 ?_
                refine lv_iconst (v := (-1)) hx hb dX14_readClass_202 (by decide) ?_
                have gp_147 := g
                have go_ := g
                refine g_iastX hx hb hK g ma_146 ka_146 (by decide) rfl (in_bd b_69 (by decide)) (bd_sub kb_m1 (by decide)) (by decide) dX14_readClass_203 (fun f H locs hM_148 u_151 g => ?_)
                have hG_149 := cEq.frame hM_148 go_.2.2.2.1 ma0_ ka0_ (by decide) (by decide) hG_140
                have hG_150 := isV.frame hM_148 go_.2.2.2.1 mq0_ kq0_ (by decide) (by decide) hV_142
                have hV_152 := isV.uo hV_142 gp_147 0 rfl mq0_ kq0_ rfl rfl u_151.1
                have hF_153 := FR.arr hF_143 gp_147 0 rfl mq0_ kq0_ rfl rfl u_151.1
                have hM_154 : mN f q0_ (x_59.toNatClampNeg + 1) := by rw [hn_60]; exact mN.put hG_139 gp_147 0 rfl kq0_ ka_146 u_151 (congrArg Int32.toNatClampNeg hn_60) (by decide)
                refine lv_aload_n hx hb dX14_readClass_204 rfl (lv_at hl 0 rfl) ?_
                have hs_155 := sE_1 g 13 rfl (by have h9_0 := bop_; unfold bd at h9_0; have h9_1 := b_14; unfold bd at h9_1; have h9_2 := b_23; unfold bd at h9_2; have h9_3 := bx_24; unfold bd at h9_3; have h9_4 := b_69; unfold bd at h9_4; have h9_5 := h_8; unfold bd at h9_5; have h8_0 := kb_0; unfold bd at h8_0; have h8_1 := kb_1; unfold bd at h8_1; have h8_2 := kb_8; unfold bd at h8_2; have h8_3 := kb_m1; unfold bd at h8_3; omega)
                have go_ := g
                refine g_callEv (As := []) (rest := []) ⟨hx, hb, hml, hown, hts⟩ (r_X14_next_2 l dC dI L kd tys f H.size g.2.2.2.1 adK adV a0_ ma0_ ka0_ x_7 h_8 (g.fcts [14] rfl)) (cwV 0 hts (gV_ t_2411 t_2413 t_102 t_198 t_2414) rfl rfl rfl (by decide +kernel) ⟨(Nat.le_of_ble_eq_true rfl), (Nat.le_of_ble_eq_true rfl)⟩) (pre3VA g hK hAm ma0_ ka0_ (by decide) (q := (RX14, TX14, 67)) rfl) rfl hl.1 rfl (lv_room (Nat.le_of_ble_eq_true rfl)) dX14_readClass_205 (cl_f hck_0) g hK (by decide) (by decide) (fx' := [(12, 59, q0_, .ref a_146), (12, 15, q0_, .ref a_136), (12, 13, q0_, .ref a_128), (12, 5, q0_, .ref a_120), (12, 4, q0_, .ref a_112), (12, 3, q0_, .ref a_104), (12, 2, q0_, .ref a_96), (12, 1, q0_, .ref a_88), (14, 16, a0_, .int x_59), (12, 0, q0_, .int x_59), (14, 2, a0_, .ref q0_), (14, 25, a0_, .int op_)]) rfl (fun xr_156 fr_156 H locs mxr_156 kxr_156 hp hMr_156 g => ?_) (fun fr_156 H locs hp hMr_156 g => ?_)
                · have hG_157 := isV.frame hMr_156 go_.2.2.2.1 mq0_ kq0_ (by decide) (by decide) hV_152
                  have hG_158 := FR.frame hMr_156 go_.2.2.2.1 mq0_ kq0_ (by decide) (by decide) hF_153
                  have hG_159 := mN.frame hMr_156 go_.2.2.2.1 mq0_ kq0_ (by decide) (by decide) hM_154
                  subst hQ
                  exact leavesX hempty hlocks (fun t ht hW => g_thrZ g hK mxr_156 kxr_156 ⟨hG_158, (by omega)⟩ ht hW) g.2.2.1.2.2
                · obtain ⟨hx_160, h_161, x_162, h_163, hF_164⟩ := hp
                  have hG_165 := isV.frame hMr_156 go_.2.2.2.1 mq0_ kq0_ (by decide) (by decide) hV_152
                  have hG_166 := FR.frame hMr_156 go_.2.2.2.1 mq0_ kq0_ (by decide) (by decide) hF_153
                  have hG_167 := mN.frame hMr_156 go_.2.2.2.1 mq0_ kq0_ (by decide) (by decide) hM_154
                  obtain ⟨E_168, hE_168⟩ : ∃ E : Int, cEq fr_156 a0_ E := ⟨_, rfl⟩
                  have mxE_168 : E_168 ≤ 1202 := by have h9 := cF_le g ma0_ ka0_; have h8 : cF _ _ = _ := hE_168; omega
                  have lE_168 : E_13 + 1 ≤ E_168 := by have h9 := hx_160; have h8 : cF _ _ = _ := hE_168; have h7 : cF _ _ = _ := hG_149; have h6 := hs_155; have h5 := tk_c (f := f) (t := a0_); omega
                  have b_169 : bd 0 1200 x_7 := eqX rfl h_8 h_161 (by decide)
                  have g := g.more hF_164
                  refine lv_aload_n hx hb dX14_readClass_208 rfl (lv_at hl 0 rfl) ?_
                  refine lv_iconst (v := 1) hx hb dX14_readClass_209 (by decide) ?_
                  have go_ := g
                  refine g_callEi (As := [.int 1]) (rest := []) ⟨hx, hb, hml, hown, hts⟩ (r_X14_takes_2 l dC dI L kd tys fr_156 H.size g.2.2.2.1 adK adV a0_ ma0_ ka0_ 1 x_162 h_163 (g.fcts [0] rfl)) (cwV 1 hts (gV_ t_2423 t_2425 t_105 t_198 t_2426) rfl rfl rfl (by decide +kernel) ⟨(Nat.le_of_ble_eq_true rfl), (Nat.le_of_ble_eq_true rfl)⟩) (pre3VA g hK hAm ma0_ ka0_ (by decide) (q := (RX14, TX14, 67)) rfl) rfl hl.1 rfl (lv_room (Nat.le_of_ble_eq_true rfl)) dX14_readClass_210 (cl_f hck_0) g hK (by decide) (by decide) (fx' := [(12, 59, q0_, .ref a_146), (12, 15, q0_, .ref a_136), (12, 13, q0_, .ref a_128), (12, 5, q0_, .ref a_120), (12, 4, q0_, .ref a_112), (12, 3, q0_, .ref a_104), (12, 2, q0_, .ref a_96), (12, 1, q0_, .ref a_88), (14, 16, a0_, .int x_59), (12, 0, q0_, .int x_59), (14, 2, a0_, .ref q0_), (14, 25, a0_, .int op_)]) rfl (fun xr_170 fr_170 H locs mxr_170 kxr_170 hp hMr_170 g => ?_) (fun r_170 fr_170 H locs hp hMr_170 g => ?_)
                  · have hG_171 := isV.frame hMr_170 go_.2.2.2.1 mq0_ kq0_ (by decide) (by decide) hG_165
                    have hG_172 := FR.frame hMr_170 go_.2.2.2.1 mq0_ kq0_ (by decide) (by decide) hG_166
                    have hG_173 := mN.frame hMr_170 go_.2.2.2.1 mq0_ kq0_ (by decide) (by decide) hG_167
                    subst hQ
                    exact leavesX hempty hlocks (fun t ht hW => g_thrZ g hK mxr_170 kxr_170 ⟨hG_172, (by omega)⟩ ht hW) g.2.2.1.2.2
                  · rcases hp with ⟨hx_174, h_175, hF_176⟩ | ⟨hx_177, h_178, h_179, x_180, h_181, hF_182⟩
                    · have hG_183 := isV.frame hMr_170 go_.2.2.2.1 mq0_ kq0_ (by decide) (by decide) hG_165
                      have hG_184 := FR.frame hMr_170 go_.2.2.2.1 mq0_ kq0_ (by decide) (by decide) hG_166
                      have hG_185 := mN.frame hMr_170 go_.2.2.2.1 mq0_ kq0_ (by decide) (by decide) hG_167
                      obtain rfl : r_170 = 0 := h_175
                      obtain ⟨E_186, hE_186⟩ : ∃ E : Int, cEq fr_170 a0_ E := ⟨_, rfl⟩
                      have mxE_186 : E_186 ≤ 1202 := by have h9 := cF_le g ma0_ ka0_; have h8 : cF _ _ = _ := hE_186; omega
                      have lE_186 : E_168 = E_186 := by have h9 := hx_174; have h8 : cF _ _ = _ := hE_186; have h7 : cF _ _ = _ := hE_168; omega
                      have g := g.more hF_176
                      refine lv_if_eq (tgt := 279) hx hb dX14_readClass_213 (by decide) (fun c_ => ?_) (fun c_ => absurd (by decide) c_)
                      refine lv_aload_n hx hb dX14_readClass_279 rfl (lv_at hl 0 rfl) ?_
                      refine g_getk (C := RX14) (T := TX14) (N := 67) hx hb hts (mc_ inX14) hown hK g rfl 2 (by decide) rfl (hts _ (List.mem_cons_of_mem _ t_2148)) (fun _ h9 => h9) 11 rfl dX14_readClass_280 ?_
                      refine lv_dup hx hb dX14_readClass_283 rfl ?_
                      refine g_getk (C := RX12) (T := TX12) (N := 60) hx hb hts (mc_ inX12) hown hK g rfl 0 (by decide) rfl (hts _ (List.mem_cons_of_mem _ t_1906)) (fun _ h9 => h9) 10 rfl dX14_readClass_284 ?_
                      refine lv_iconst (v := 1) hx hb dX14_readClass_287 (by decide) ?_
                      refine lv_iadd hx hb dX14_readClass_288 ?_
                      refine lv_topi (fun y_187 ey_187 => ?_)
                      have ty_187 := add_bd ey_187 b_69 kb_1 (by decide)
                      have b_188 : bd 1 8 y_187 := add_rg ty_187 b_69 kb_1 (by decide)
                      have gp_189 := g
                      have go_ := g
                      refine g_putX (C := RX12) (T := TX12) (N := 60) hx hb hts (mc_ inX12) tyX12 tyX12_ok nmX12 hown hK g mq0_ kq0_ (by decide) rfl 0 (by decide) (hts _ (List.mem_cons_of_mem _ t_1906)) (fun _ h9 => h9) rfl rfl (okV_i (bd_sub b_188 (by decide))) rfl rfl (by decide) (Or.inr (Or.inl (by decide))) (fx' := [(14, 10, a0_, .int x_162), (12, 59, q0_, .ref a_146), (12, 15, q0_, .ref a_136), (12, 13, q0_, .ref a_128), (12, 5, q0_, .ref a_120), (12, 4, q0_, .ref a_112), (12, 3, q0_, .ref a_104), (12, 2, q0_, .ref a_96), (12, 1, q0_, .ref a_88), (14, 16, a0_, .int x_59), (14, 2, a0_, .ref q0_), (14, 25, a0_, .int op_)]) rfl dX14_readClass_289 (fun f H locs hM_190 u_193 g => ?_)
                      have hG_191 := mN.frame hM_190 go_.2.2.2.1 mq0_ kq0_ (by decide) (by decide) hG_185
                      have hG_192 := cEq.frame hM_190 go_.2.2.2.1 ma0_ ka0_ (by decide) (by decide) hE_186
                      have hV_194 := isV.un hG_183 gp_189.2.2.2.1 mq0_ kq0_ rfl u_193
                      have hF_195 := FR.fld hG_184 u_193
                      have hki_196 : KI ((((((((V_.ul 1 x_59.toNatClampNeg x_35).ul 2 x_59.toNatClampNeg x_36).ui 3 x_59.toNatClampNeg ((-1) : Int32)).ui 4 x_59.toNatClampNeg (0 : Int32)).ui 5 x_59.toNatClampNeg (0 : Int32)).ui 13 x_59.toNatClampNeg (0 : Int32)).ui 15 x_59.toNatClampNeg (0 : Int32)).un 0 y_187) δ_ x_59.toNatClampNeg := KC.open_ hkc_144 ho7.1 (by have h9 := ho7.2; have h9_0 := bop_; unfold bd at h9_0; have h9_1 := b_14; unfold bd at h9_1; have h9_2 := b_23; unfold bd at h9_2; have h9_3 := h_163; unfold bd at h9_3; have h9_4 := bx_24; unfold bd at h9_4; have h9_5 := b_69; unfold bd at h9_5; have h9_6 := b_169; unfold bd at h9_6; have h9_7 := b_188; unfold bd at h9_7; have h8_0 := kb_0; unfold bd at h8_0; have h8_1 := kb_1; unfold bd at h8_1; have h8_2 := kb_8; unfold bd at h8_2; have h8_3 := kb_m1; unfold bd at h8_3; omega) hhd_145.1 (Or.inl hhd_145.2)
                      refine lv_aload_n hx hb dX14_readClass_292 rfl (lv_at hl 0 rfl) ?_
                      refine lv_bipush (v := 123) hx hb dX14_readClass_293 (by decide) ?_
                      have go_ := g
                      refine g_callEv (As := [.int 123]) (rest := []) ⟨hx, hb, hml, hown, hts⟩ (r_X14_sign_2 l dC dI L kd tys f H.size g.2.2.2.1 adK adV a0_ ma0_ ka0_ 123 x_162 h_163 (g.fcts [1] rfl)) (cwV 1 hts (gV_ t_2431 t_2433 t_107 t_198 t_2434) rfl rfl rfl (by decide +kernel) ⟨(Nat.le_of_ble_eq_true rfl), (Nat.le_of_ble_eq_true rfl)⟩) (pre3VA g hK hAm ma0_ ka0_ (by decide) (q := (RX14, TX14, 67)) rfl) rfl hl.1 rfl (lv_room (Nat.le_of_ble_eq_true rfl)) dX14_readClass_295 (cl_f hck_0) g hK (by decide) (by decide) (fx' := [(12, 0, q0_, .int y_187), (12, 59, q0_, .ref a_146), (12, 15, q0_, .ref a_136), (12, 13, q0_, .ref a_128), (12, 5, q0_, .ref a_120), (12, 4, q0_, .ref a_112), (12, 3, q0_, .ref a_104), (12, 2, q0_, .ref a_96), (12, 1, q0_, .ref a_88), (14, 16, a0_, .int x_59), (14, 2, a0_, .ref q0_), (14, 25, a0_, .int op_)]) rfl (fun xr_197 fr_197 H locs mxr_197 kxr_197 hp hMr_197 g => ?_) (fun fr_197 H locs hp hMr_197 g => ?_)
                      · have hG_198 := mN.frame hMr_197 go_.2.2.2.1 mq0_ kq0_ (by decide) (by decide) hG_191
                        have hG_199 := isV.frame hMr_197 go_.2.2.2.1 mq0_ kq0_ (by decide) (by decide) hV_194
                        have hG_200 := FR.frame hMr_197 go_.2.2.2.1 mq0_ kq0_ (by decide) (by decide) hF_195
                        subst hQ
                        exact leavesX hempty hlocks (fun t ht hW => g_thrZ g hK mxr_197 kxr_197 ⟨hG_200, (by omega)⟩ ht hW) g.2.2.1.2.2
                      · obtain ⟨hx_201, h_202, x_203, h_204, hF_205⟩ := hp
                        have hG_206 := mN.frame hMr_197 go_.2.2.2.1 mq0_ kq0_ (by decide) (by decide) hG_191
                        have hG_207 := isV.frame hMr_197 go_.2.2.2.1 mq0_ kq0_ (by decide) (by decide) hV_194
                        have hG_208 := FR.frame hMr_197 go_.2.2.2.1 mq0_ kq0_ (by decide) (by decide) hF_195
                        obtain ⟨E_209, hE_209⟩ : ∃ E : Int, cEq fr_197 a0_ E := ⟨_, rfl⟩
                        have mxE_209 : E_209 ≤ 1202 := by have h9 := cF_le g ma0_ ka0_; have h8 : cF _ _ = _ := hE_209; omega
                        have lE_209 : E_186 + 1 ≤ E_209 := by have h9 := hx_201; have h8 : cF _ _ = _ := hE_209; have h7 : cF _ _ = _ := hG_192; omega
                        have b_210 : bd 0 1200 x_162 := eqX rfl h_163 h_202 (by decide)
                        have g := g.more hF_205
                        have loop_211 : ∀ (n : Nat) (w298_14_10_a0_ : Int32), bd 0 1201 w298_14_10_a0_ → ((n : Int) - 1 < (n : Int)) → ∀ (f : Nat → va_E) (H : Heap) (locs : List Loc) (ls : Array Slot) (cl298 : Nat), G3 (dC, dI) L kd tys s f0 [(12, 0), (12, 27), (12, 46), (12, 57), (12, 58), (14, 6), (14, 7), (14, 8), (14, 9), (14, 10), (14, 11), (14, 12), (14, 13), (14, 14), (14, 15), (14, 16), (14, 17), (14, 20), (14, 21), (14, 22), (14, 23), (14, 24), (14, 25), (14, 26)] [157, 158, 159, 160, 161, 162, 163, 164, 165, 166, 167, 168, 169, 170, 171, 172, 173, 174, 175, 176, 177, 178, 179, 180, 181, 182, 183, 184, 185, 186, 187, 188, 189, 190, 191, 192, 193, 194, 195, 196, 197, 198, 199, 200, 201, 202, 203, 204, 205, 206, 207, 208, 209, 210, 211, 213, 214] f H locs [(14, 10, a0_, .int w298_14_10_a0_), (12, 0, q0_, .int y_187), (12, 59, q0_, .ref a_146), (12, 15, q0_, .ref a_136), (12, 13, q0_, .ref a_128), (12, 5, q0_, .ref a_120), (12, 4, q0_, .ref a_112), (12, 3, q0_, .ref a_104), (12, 2, q0_, .ref a_96), (12, 1, q0_, .ref a_88), (14, 16, a0_, .int x_59), (14, 2, a0_, .ref q0_), (14, 25, a0_, .int op_)] → (∃ (V1 : PV) (D1 : Nat → Nat) (E1 : Int), isV f q0_ V1 ∧ FR L kd f0 f q0_ ∧ cEq f a0_ E1 ∧ KI V1 D1 x_59.toNatClampNeg ∧ mN f q0_ (x_59.toNatClampNeg + 1) ∧ (V1.n 57).toInt - (V_.n 57).toInt ≤ E1 - cF f0 a0_ ∧ 2 * ((V1.n 46).toInt - (V_.n 46).toInt) ≤ E1 - cF f0 a0_ ∧ 2 * (cl298 : Int) ≤ E1 - cF f0 a0_ ∧ cF f0 a0_ + 1 ≤ E1 ∧ E1 ≤ 1202 ∧ cl298 ≤ K_ ∧ 1202 - E1 < (n : Int)) → lv_has ls 2 [(0, .ref a0_)] → W p l e ({ frames := 515, cells := K_, slots := 3 * K_, locals := 29747 } : Room) s m [.ref a0_].toArray below meth c H locs cl298 (3 * cl298) Q (F0 m 298 ls []) := by
                          intro n298
                          induction n298 with
                          | zero =>
                            intro w298_14_10_a0_ bw298_14_10_a0_ hm298 f H locs ls cl298 g  ⟨V298, D298, E298, hV298, hF298, hC298, hki298, hmm298, hn298, hs298, hk298, hc298, mx298, hck298, hms298⟩ hl
                            exact absurd hms298 (by omega)
                          | succ n298 ih298 =>
                            intro w298_14_10_a0_ bw298_14_10_a0_ hm298 f H locs ls cl298 g  ⟨V298, D298, E298, hV298, hF298, hC298, hki298, hmm298, hn298, hs298, hk298, hc298, mx298, hck298, hms298⟩ hl
                            refine lv_aload_n hx hb dX14_readClass_298 rfl (lv_at hl 0 rfl) ?_
                            refine lv_iconst (v := 2) hx hb dX14_readClass_299 (by decide) ?_
                            have go_ := g
                            refine g_calli (va_runV (As := [.int 2]) (rest := []) ⟨hx, hb, hml, hown, hts⟩ (r_X14_isWord l dC dI L kd tys f H.size g.2.2.2.1 a0_ ma0_ ka0_ 2) (cwV 1 hts (gV_ t_2399 t_2401 t_99 t_198 t_2402) rfl rfl rfl (by decide +kernel) ⟨(Nat.le_of_ble_eq_true rfl), (Nat.le_of_ble_eq_true rfl)⟩) (pre3V g hK ma0_ ka0_ (by decide) (q := (RX14, TX14, 67)) rfl) rfl rfl hl.1 rfl (lv_room (Nat.le_of_ble_eq_true rfl)) dX14_readClass_300 (cl_f hck298)) g hK (by decide) (by decide) (fx' := [(14, 10, a0_, .int w298_14_10_a0_), (12, 0, q0_, .int y_187), (12, 59, q0_, .ref a_146), (12, 15, q0_, .ref a_136), (12, 13, q0_, .ref a_128), (12, 5, q0_, .ref a_120), (12, 4, q0_, .ref a_112), (12, 3, q0_, .ref a_104), (12, 2, q0_, .ref a_96), (12, 1, q0_, .ref a_88), (14, 16, a0_, .int x_59), (14, 2, a0_, .ref q0_), (14, 25, a0_, .int op_)]) rfl (fun r_212 fr_212 H locs hp hMr_212 g => ?_)
                            rcases hp with ⟨h_213, -⟩ | ⟨h_214, x_215, h_216, hF_217⟩
                            · have hG_218 := isV.frame hMr_212 go_.2.2.2.1 mq0_ kq0_ (by decide) (by decide) hV298
                              have hG_219 := FR.frame hMr_212 go_.2.2.2.1 mq0_ kq0_ (by decide) (by decide) hF298
                              have hG_220 := cEq.frame hMr_212 go_.2.2.2.1 ma0_ ka0_ (by decide) (by decide) hC298
                              have hG_221 := mN.frame hMr_212 go_.2.2.2.1 mq0_ kq0_ (by decide) (by decide) hmm298
                              obtain rfl : r_212 = 0 := h_213
                              refine lv_if_eq (tgt := 313) hx hb dX14_readClass_303 (by decide) (fun c_ => ?_) (fun c_ => absurd (by decide) c_)
                              have loop_222 : ∀ (n : Nat) (w313_14_10_a0_ : Int32), bd 0 1201 w313_14_10_a0_ → ((n : Int) - 1 < (n : Int)) → ∀ (f : Nat → va_E) (H : Heap) (locs : List Loc) (ls : Array Slot) (cl313 : Nat), G3 (dC, dI) L kd tys s f0 [(12, 0), (12, 27), (12, 46), (12, 57), (12, 58), (14, 6), (14, 7), (14, 8), (14, 9), (14, 10), (14, 11), (14, 12), (14, 13), (14, 14), (14, 15), (14, 16), (14, 17), (14, 20), (14, 21), (14, 22), (14, 23), (14, 24), (14, 25), (14, 26)] [157, 158, 159, 160, 161, 162, 163, 164, 165, 166, 167, 168, 169, 170, 171, 172, 173, 174, 175, 176, 177, 178, 179, 180, 181, 182, 183, 184, 185, 186, 187, 188, 189, 190, 191, 192, 193, 194, 195, 196, 197, 198, 199, 200, 201, 202, 203, 204, 205, 206, 207, 208, 209, 210, 211, 213, 214] f H locs [(14, 10, a0_, .int w313_14_10_a0_), (12, 0, q0_, .int y_187), (12, 59, q0_, .ref a_146), (12, 15, q0_, .ref a_136), (12, 13, q0_, .ref a_128), (12, 5, q0_, .ref a_120), (12, 4, q0_, .ref a_112), (12, 3, q0_, .ref a_104), (12, 2, q0_, .ref a_96), (12, 1, q0_, .ref a_88), (14, 16, a0_, .int x_59), (14, 2, a0_, .ref q0_), (14, 25, a0_, .int op_)] → (∃ (V1 : PV) (D1 : Nat → Nat) (E1 : Int), isV f q0_ V1 ∧ FR L kd f0 f q0_ ∧ cEq f a0_ E1 ∧ KI V1 D1 x_59.toNatClampNeg ∧ mN f q0_ (x_59.toNatClampNeg + 1) ∧ (V1.n 57).toInt - (V_.n 57).toInt ≤ E1 - cF f0 a0_ ∧ 2 * ((V1.n 46).toInt - (V_.n 46).toInt) ≤ E1 - cF f0 a0_ ∧ 2 * (cl313 : Int) ≤ E1 - cF f0 a0_ ∧ cF f0 a0_ + 1 ≤ E1 ∧ E1 ≤ 1202 ∧ cl313 ≤ K_ ∧ 1202 - E1 < (n : Int)) → lv_has ls 2 [(0, .ref a0_)] → W p l e ({ frames := 515, cells := K_, slots := 3 * K_, locals := 29747 } : Room) s m [.ref a0_].toArray below meth c H locs cl313 (3 * cl313) Q (F0 m 313 ls []) := by
                                intro n313
                                induction n313 with
                                | zero =>
                                  intro w313_14_10_a0_ bw313_14_10_a0_ hm313 f H locs ls cl313 g  ⟨V313, D313, E313, hV313, hF313, hC313, hki313, hmm313, hn313, hs313, hk313, hc313, mx313, hck313, hms313⟩ hl
                                  exact absurd hms313 (by omega)
                                | succ n313 ih313 =>
                                  intro w313_14_10_a0_ bw313_14_10_a0_ hm313 f H locs ls cl313 g  ⟨V313, D313, E313, hV313, hF313, hC313, hki313, hmm313, hn313, hs313, hk313, hc313, mx313, hck313, hms313⟩ hl
                                  refine lv_aload_n hx hb dX14_readClass_313 rfl (lv_at hl 0 rfl) ?_
                                  refine lv_iconst (v := 3) hx hb dX14_readClass_314 (by decide) ?_
                                  have go_ := g
                                  refine g_calli (va_runV (As := [.int 3]) (rest := []) ⟨hx, hb, hml, hown, hts⟩ (r_X14_isWord l dC dI L kd tys f H.size g.2.2.2.1 a0_ ma0_ ka0_ 3) (cwV 1 hts (gV_ t_2399 t_2401 t_99 t_198 t_2402) rfl rfl rfl (by decide +kernel) ⟨(Nat.le_of_ble_eq_true rfl), (Nat.le_of_ble_eq_true rfl)⟩) (pre3V g hK ma0_ ka0_ (by decide) (q := (RX14, TX14, 67)) rfl) rfl rfl hl.1 rfl (lv_room (Nat.le_of_ble_eq_true rfl)) dX14_readClass_315 (cl_f hck313)) g hK (by decide) (by decide) (fx' := [(14, 10, a0_, .int w313_14_10_a0_), (12, 0, q0_, .int y_187), (12, 59, q0_, .ref a_146), (12, 15, q0_, .ref a_136), (12, 13, q0_, .ref a_128), (12, 5, q0_, .ref a_120), (12, 4, q0_, .ref a_112), (12, 3, q0_, .ref a_104), (12, 2, q0_, .ref a_96), (12, 1, q0_, .ref a_88), (14, 16, a0_, .int x_59), (14, 2, a0_, .ref q0_), (14, 25, a0_, .int op_)]) rfl (fun r_223 fr_223 H locs hp hMr_223 g => ?_)
                                  rcases hp with ⟨h_224, -⟩ | ⟨h_225, x_226, h_227, hF_228⟩
                                  · have hG_229 := isV.frame hMr_223 go_.2.2.2.1 mq0_ kq0_ (by decide) (by decide) hV313
                                    have hG_230 := FR.frame hMr_223 go_.2.2.2.1 mq0_ kq0_ (by decide) (by decide) hF313
                                    have hG_231 := cEq.frame hMr_223 go_.2.2.2.1 ma0_ ka0_ (by decide) (by decide) hC313
                                    have hG_232 := mN.frame hMr_223 go_.2.2.2.1 mq0_ kq0_ (by decide) (by decide) hmm313
                                    obtain rfl : r_223 = 0 := h_224
                                    refine lv_if_eq (tgt := 328) hx hb dX14_readClass_318 (by decide) (fun c_ => ?_) (fun c_ => absurd (by decide) c_)
                                    have loop_233 : ∀ (n : Nat) (w328_14_10_a0_ : Int32), bd 0 1201 w328_14_10_a0_ → ((n : Int) - 1 < (n : Int)) → ∀ (f : Nat → va_E) (H : Heap) (locs : List Loc) (ls : Array Slot) (cl328 : Nat), G3 (dC, dI) L kd tys s f0 [(12, 0), (12, 27), (12, 46), (12, 57), (12, 58), (14, 6), (14, 7), (14, 8), (14, 9), (14, 10), (14, 11), (14, 12), (14, 13), (14, 14), (14, 15), (14, 16), (14, 17), (14, 20), (14, 21), (14, 22), (14, 23), (14, 24), (14, 25), (14, 26)] [157, 158, 159, 160, 161, 162, 163, 164, 165, 166, 167, 168, 169, 170, 171, 172, 173, 174, 175, 176, 177, 178, 179, 180, 181, 182, 183, 184, 185, 186, 187, 188, 189, 190, 191, 192, 193, 194, 195, 196, 197, 198, 199, 200, 201, 202, 203, 204, 205, 206, 207, 208, 209, 210, 211, 213, 214] f H locs [(14, 10, a0_, .int w328_14_10_a0_), (12, 0, q0_, .int y_187), (12, 59, q0_, .ref a_146), (12, 15, q0_, .ref a_136), (12, 13, q0_, .ref a_128), (12, 5, q0_, .ref a_120), (12, 4, q0_, .ref a_112), (12, 3, q0_, .ref a_104), (12, 2, q0_, .ref a_96), (12, 1, q0_, .ref a_88), (14, 16, a0_, .int x_59), (14, 2, a0_, .ref q0_), (14, 25, a0_, .int op_)] → (∃ (V1 : PV) (D1 : Nat → Nat) (E1 : Int), isV f q0_ V1 ∧ FR L kd f0 f q0_ ∧ cEq f a0_ E1 ∧ KI V1 D1 x_59.toNatClampNeg ∧ mN f q0_ (x_59.toNatClampNeg + 1) ∧ (V1.n 57).toInt - (V_.n 57).toInt ≤ E1 - cF f0 a0_ ∧ 2 * ((V1.n 46).toInt - (V_.n 46).toInt) ≤ E1 - cF f0 a0_ ∧ 2 * (cl328 : Int) ≤ E1 - cF f0 a0_ ∧ cF f0 a0_ + 1 ≤ E1 ∧ E1 ≤ 1202 ∧ cl328 ≤ K_ ∧ 1202 - E1 < (n : Int)) → lv_has ls 2 [(0, .ref a0_)] → W p l e ({ frames := 515, cells := K_, slots := 3 * K_, locals := 29747 } : Room) s m [.ref a0_].toArray below meth c H locs cl328 (3 * cl328) Q (F0 m 328 ls []) := by
                                      intro n328
                                      induction n328 with
                                      | zero =>
                                        intro w328_14_10_a0_ bw328_14_10_a0_ hm328 f H locs ls cl328 g  ⟨V328, D328, E328, hV328, hF328, hC328, hki328, hmm328, hn328, hs328, hk328, hc328, mx328, hck328, hms328⟩ hl
                                        exact absurd hms328 (by omega)
                                      | succ n328 ih328 =>
                                        intro w328_14_10_a0_ bw328_14_10_a0_ hm328 f H locs ls cl328 g  ⟨V328, D328, E328, hV328, hF328, hC328, hki328, hmm328, hn328, hs328, hk328, hc328, mx328, hck328, hms328⟩ hl
                                        refine lv_aload_n hx hb dX14_readClass_328 rfl (lv_at hl 0 rfl) ?_
                                        refine lv_iconst (v := 4) hx hb dX14_readClass_329 (by decide) ?_
                                        have go_ := g
                                        refine g_calli (va_runV (As := [.int 4]) (rest := []) ⟨hx, hb, hml, hown, hts⟩ (r_X14_isWord l dC dI L kd tys f H.size g.2.2.2.1 a0_ ma0_ ka0_ 4) (cwV 1 hts (gV_ t_2399 t_2401 t_99 t_198 t_2402) rfl rfl rfl (by decide +kernel) ⟨(Nat.le_of_ble_eq_true rfl), (Nat.le_of_ble_eq_true rfl)⟩) (pre3V g hK ma0_ ka0_ (by decide) (q := (RX14, TX14, 67)) rfl) rfl rfl hl.1 rfl (lv_room (Nat.le_of_ble_eq_true rfl)) dX14_readClass_330 (cl_f hck328)) g hK (by decide) (by decide) (fx' := [(14, 10, a0_, .int w328_14_10_a0_), (12, 0, q0_, .int y_187), (12, 59, q0_, .ref a_146), (12, 15, q0_, .ref a_136), (12, 13, q0_, .ref a_128), (12, 5, q0_, .ref a_120), (12, 4, q0_, .ref a_112), (12, 3, q0_, .ref a_104), (12, 2, q0_, .ref a_96), (12, 1, q0_, .ref a_88), (14, 16, a0_, .int x_59), (14, 2, a0_, .ref q0_), (14, 25, a0_, .int op_)]) rfl (fun r_234 fr_234 H locs hp hMr_234 g => ?_)
                                        rcases hp with ⟨h_235, -⟩ | ⟨h_236, x_237, h_238, hF_239⟩
                                        · have hG_240 := isV.frame hMr_234 go_.2.2.2.1 mq0_ kq0_ (by decide) (by decide) hV328
                                          have hG_241 := FR.frame hMr_234 go_.2.2.2.1 mq0_ kq0_ (by decide) (by decide) hF328
                                          have hG_242 := cEq.frame hMr_234 go_.2.2.2.1 ma0_ ka0_ (by decide) (by decide) hC328
                                          have hG_243 := mN.frame hMr_234 go_.2.2.2.1 mq0_ kq0_ (by decide) (by decide) hmm328
                                          obtain rfl : r_234 = 0 := h_235
                                          refine lv_if_eq (tgt := 343) hx hb dX14_readClass_333 (by decide) (fun c_ => ?_) (fun c_ => absurd (by decide) c_)
                                          refine lv_aload_n hx hb dX14_readClass_343 rfl (lv_at hl 0 rfl) ?_
                                          refine lv_bipush (v := 125) hx hb dX14_readClass_344 (by decide) ?_
                                          have go_ := g
                                          refine g_callEv (As := [.int 125]) (rest := []) ⟨hx, hb, hml, hown, hts⟩ (r_X14_sign_2 l dC dI L kd tys fr_234 H.size g.2.2.2.1 adK adV a0_ ma0_ ka0_ 125 w328_14_10_a0_ bw328_14_10_a0_ (g.fcts [0] rfl)) (cwV 1 hts (gV_ t_2431 t_2433 t_107 t_198 t_2434) rfl rfl rfl (by decide +kernel) ⟨(Nat.le_of_ble_eq_true rfl), (Nat.le_of_ble_eq_true rfl)⟩) (pre3VA g hK hAm ma0_ ka0_ (by decide) (q := (RX14, TX14, 67)) rfl) rfl hl.1 rfl (lv_room (Nat.le_of_ble_eq_true rfl)) dX14_readClass_346 (cl_f hck328) g hK (by decide) (by decide) (fx' := [(12, 0, q0_, .int y_187), (12, 59, q0_, .ref a_146), (12, 15, q0_, .ref a_136), (12, 13, q0_, .ref a_128), (12, 5, q0_, .ref a_120), (12, 4, q0_, .ref a_112), (12, 3, q0_, .ref a_104), (12, 2, q0_, .ref a_96), (12, 1, q0_, .ref a_88), (14, 16, a0_, .int x_59), (14, 2, a0_, .ref q0_), (14, 25, a0_, .int op_)]) rfl (fun xr_244 fr_244 H locs mxr_244 kxr_244 hp hMr_244 g => ?_) (fun fr_244 H locs hp hMr_244 g => ?_)
                                          · have hG_245 := isV.frame hMr_244 go_.2.2.2.1 mq0_ kq0_ (by decide) (by decide) hG_240
                                            have hG_246 := FR.frame hMr_244 go_.2.2.2.1 mq0_ kq0_ (by decide) (by decide) hG_241
                                            have hG_247 := mN.frame hMr_244 go_.2.2.2.1 mq0_ kq0_ (by decide) (by decide) hG_243
                                            subst hQ
                                            exact leavesX hempty hlocks (fun t ht hW => g_thrZ g hK mxr_244 kxr_244 ⟨hG_246, (by omega)⟩ ht hW) g.2.2.1.2.2
                                          · obtain ⟨hx_248, h_249, x_250, h_251, hF_252⟩ := hp
                                            have hG_253 := isV.frame hMr_244 go_.2.2.2.1 mq0_ kq0_ (by decide) (by decide) hG_240
                                            have hG_254 := FR.frame hMr_244 go_.2.2.2.1 mq0_ kq0_ (by decide) (by decide) hG_241
                                            have hG_255 := mN.frame hMr_244 go_.2.2.2.1 mq0_ kq0_ (by decide) (by decide) hG_243
                                            obtain ⟨E_256, hE_256⟩ : ∃ E : Int, cEq fr_244 a0_ E := ⟨_, rfl⟩
                                            have mxE_256 : E_256 ≤ 1202 := by have h9 := cF_le g ma0_ ka0_; have h8 : cF _ _ = _ := hE_256; omega
                                            have lE_256 : E328 + 1 ≤ E_256 := by have h9 := hx_248; have h8 : cF _ _ = _ := hE_256; have h7 : cF _ _ = _ := hG_242; omega
                                            have b_257 : bd 0 1200 w328_14_10_a0_ := eqX rfl bw328_14_10_a0_ h_249 (by decide)
                                            have g := g.more hF_252
                                            have h9c : cF fr_244 a0_ = _ := hE_256
                                            subst hQ
                                            exact vretX hx hb hr (fun t ht hW => g_retZ g hK ⟨rfl, ⟨⟨V328, _, hG_253, hG_254, (KI.close hki328 ((fun c hc => (isV.rng hG_253 g mq0_ kq0_ (j := 15) (K := 171) (by decide) rfl (by decide) rfl hc).2) _ (by have h9 := ho7.1; omega))).cn, (by rw [show (V328.n 0).toNatClampNeg = x_59.toNatClampNeg + 1 by have h9 := hki328.2.2.2; have h8 := tnZ (i := V328.n 0) (by omega); omega]; exact hG_255), (by omega), (by omega), (by omega), (by omega)⟩, x_250, h_251, (g.fcts [12, 0] rfl)⟩⟩ ht hW) g.2.2.1.2.2 dX14_readClass_349 hlocks
                                        · have hG_258 := isV.frame hMr_234 go_.2.2.2.1 mq0_ kq0_ (by decide) (by decide) hV328
                                          have hG_259 := FR.frame hMr_234 go_.2.2.2.1 mq0_ kq0_ (by decide) (by decide) hF328
                                          have hG_260 := cEq.frame hMr_234 go_.2.2.2.1 ma0_ ka0_ (by decide) (by decide) hC328
                                          have hG_261 := mN.frame hMr_234 go_.2.2.2.1 mq0_ kq0_ (by decide) (by decide) hmm328
                                          obtain rfl : r_234 = 1 := h_236
                                          have g := g.more hF_239
                                          refine lv_if_eq (tgt := 343) hx hb dX14_readClass_333 (by decide) (fun c_ => absurd c_ (by decide)) (fun c_ => ?_)
                                          refine lv_aload_n hx hb dX14_readClass_336 rfl (lv_at hl 0 rfl) ?_
                                          have qc__262 : cF fr_234 a0_ = _ := hG_260
                                          have qc__263 : cF fr_234 a0_ = _ := hG_260
                                          have hs_264 := sE_1 g 0 rfl (by have h9_0 := bop_; unfold bd at h9_0; have h9_1 := b_14; unfold bd at h9_1; have h9_2 := bw298_14_10_a0_; unfold bd at h9_2; have h9_3 := bw313_14_10_a0_; unfold bd at h9_3; have h9_4 := bw328_14_10_a0_; unfold bd at h9_4; have h9_5 := b_23; unfold bd at h9_5; have h9_6 := b_210; unfold bd at h9_6; have h9_7 := h_204; unfold bd at h9_7; have h9_8 := h_238; unfold bd at h9_8; have h9_9 := bx_24; unfold bd at h9_9; have h9_10 := b_69; unfold bd at h9_10; have h9_11 := b_169; unfold bd at h9_11; have h9_12 := b_188; unfold bd at h9_12; have h8_0 := kb_0; unfold bd at h8_0; have h8_1 := kb_1; unfold bd at h8_1; have h8_2 := kb_8; unfold bd at h8_2; have h8_3 := kb_m1; unfold bd at h8_3; omega)
                                          have go_ := g
                                          refine g_callZv (As := []) (rest := []) ⟨hx, hb, hml, hown, hts⟩ (r_X14_readMember l dC dI L kd tys fr_234 H.size g.2.2.2.1 adK adV a0_ ma0_ ka0_ q0_ mq0_ kq0_ V328 D328 x_59 b_69 op_ bop_ w328_14_10_a0_ bw328_14_10_a0_ hG_258 hki328 (by omega) (by omega) (isV.nrg hG_258 g mq0_ kq0_ (j := 46) (by decide) rfl).1 (K_ - cl328) (by omega) (g.fcts [12, 11, 13, 1] rfl)) (cwV 0 hts (gV_ t_2524 t_2526 t_127 t_198 t_2527) rfl rfl rfl (by decide +kernel) ⟨(Nat.le_of_ble_eq_true rfl), (Nat.le_of_ble_eq_true rfl)⟩) (pre3VA g hK hAm ma0_ ka0_ (by decide) (q := (RX14, TX14, 67)) rfl) rfl hl.1 rfl (lv_room (Nat.le_of_ble_eq_true rfl)) dX14_readClass_337 (cl_k (K := K_) (k := K_ - cl328) (show cl328 + (K_ - cl328) ≤ K_ by omega)) g hK (by decide) (by decide) (fx' := [(12, 0, q0_, .int y_187), (12, 59, q0_, .ref a_146), (12, 15, q0_, .ref a_136), (12, 13, q0_, .ref a_128), (12, 5, q0_, .ref a_120), (12, 4, q0_, .ref a_112), (12, 3, q0_, .ref a_104), (12, 2, q0_, .ref a_96), (12, 1, q0_, .ref a_88), (14, 16, a0_, .int x_59), (14, 2, a0_, .ref q0_)]) rfl (fun xr_265 fr_265 H locs kr_265 cr_265 ecr_265 mxr_265 kxr_265 hp hMr_265 g => ?_) (fun fr_265 H locs kr_265 cr_265 ecr_265 hp hMr_265 g => ?_)
                                          · have hG_266 := mN.frame hMr_265 go_.2.2.2.1 mq0_ kq0_ (by decide) (by decide) hG_261
                                            have hF_267 := FR.call (mds := []) (mas := []) hG_259 go_ mq0_ kq0_ rfl hp.1
                                            have hpk := hp.2
                                            subst hQ
                                            exact leavesX hempty hlocks (fun t ht hW => g_thrZ g hK mxr_265 kxr_265 ⟨hF_267, (by omega)⟩ ht hW) g.2.2.1.2.2
                                          · obtain ⟨hx_268, x_269, h_270, hF_271⟩ := hp
                                            have hG_272 := mN.frame hMr_265 go_.2.2.2.1 mq0_ kq0_ (by decide) (by decide) hG_261
                                            obtain ⟨V_273, D_274, E_275, hV_276, hF_277, hE_278, hki_279, hP_280, hn_281, hs_282, hk_283, hc_284⟩ := rdk_use hx_268 hG_260
                                            have hF_285 := FR.call (mds := []) (mas := []) hG_259 go_ mq0_ kq0_ rfl hF_277
                                            have mxE_275 : E_275 ≤ 1202 := by have h9 := cF_le g ma0_ ka0_; have h8 : cF _ _ = _ := hE_278; omega
                                            have hck_286 : cr_265 ≤ K_ := by omega
                                            have g := g.more hF_271
                                            refine lv_goto (tgt := 328) hx hb dX14_readClass_340 (by decide) ?_
                                            have hl9 := lv_sub hl [0] (by rfl : lv_pick [(0, .ref a0_)] [0] = [(0, .ref a0_)])
                                            have g9 := g.sub (fx' := [(14, 10, a0_, .int x_269), (12, 0, q0_, .int y_187), (12, 59, q0_, .ref a_146), (12, 15, q0_, .ref a_136), (12, 13, q0_, .ref a_128), (12, 5, q0_, .ref a_120), (12, 4, q0_, .ref a_112), (12, 3, q0_, .ref a_104), (12, 2, q0_, .ref a_96), (12, 1, q0_, .ref a_88), (14, 16, a0_, .int x_59), (14, 2, a0_, .ref q0_), (14, 25, a0_, .int op_)]) [1, 2, 3, 4, 5, 6, 7, 8, 9, 10, 11, 12, 0] rfl
                                            exact ih328  x_269 h_270 (by have h9_0 := bw328_14_10_a0_; unfold bd at h9_0; have h9_1 := h_270; unfold bd at h9_1; have h9_2 := kb_0; unfold bd at h9_2; have h9_3 := kb_1; unfold bd at h9_3; have h9_4 := kb_8; unfold bd at h9_4; have h9_5 := kb_m1; unfold bd at h9_5; omega) _ _ _ _ _ g9 ⟨_, _, _, hV_276, hF_285, hE_278, hki_279, hG_272, (by omega), (by omega), (by omega), (by omega), (by omega), hck_286, (by omega)⟩ hl9
                                    have hl9 := lv_sub hl [0] (by rfl : lv_pick [(0, .ref a0_)] [0] = [(0, .ref a0_)])
                                    have g9 := g.sub (fx' := [(14, 10, a0_, .int w313_14_10_a0_), (12, 0, q0_, .int y_187), (12, 59, q0_, .ref a_146), (12, 15, q0_, .ref a_136), (12, 13, q0_, .ref a_128), (12, 5, q0_, .ref a_120), (12, 4, q0_, .ref a_112), (12, 3, q0_, .ref a_104), (12, 2, q0_, .ref a_96), (12, 1, q0_, .ref a_88), (14, 16, a0_, .int x_59), (14, 2, a0_, .ref q0_), (14, 25, a0_, .int op_)]) [0, 1, 2, 3, 4, 5, 6, 7, 8, 9, 10, 11, 12] rfl
                                    exact loop_233 (1300) w313_14_10_a0_ bw313_14_10_a0_ (by have h9_0 := bw313_14_10_a0_; unfold bd at h9_0; have h9_1 := kb_0; unfold bd at h9_1; have h9_2 := kb_1; unfold bd at h9_2; have h9_3 := kb_8; unfold bd at h9_3; have h9_4 := kb_m1; unfold bd at h9_4; omega) _ _ _ _ _ g9 ⟨_, _, _, hG_229, hG_230, hG_231, hki313, hG_232, (by omega), (by omega), (by omega), (by omega), (by omega), hck313, (by omega)⟩ hl9
                                  · have hG_287 := isV.frame hMr_223 go_.2.2.2.1 mq0_ kq0_ (by decide) (by decide) hV313
                                    have hG_288 := FR.frame hMr_223 go_.2.2.2.1 mq0_ kq0_ (by decide) (by decide) hF313
                                    have hG_289 := cEq.frame hMr_223 go_.2.2.2.1 ma0_ ka0_ (by decide) (by decide) hC313
                                    have hG_290 := mN.frame hMr_223 go_.2.2.2.1 mq0_ kq0_ (by decide) (by decide) hmm313
                                    obtain rfl : r_223 = 1 := h_225
                                    have g := g.more hF_228
                                    refine lv_if_eq (tgt := 328) hx hb dX14_readClass_318 (by decide) (fun c_ => absurd c_ (by decide)) (fun c_ => ?_)
                                    refine lv_aload_n hx hb dX14_readClass_321 rfl (lv_at hl 0 rfl) ?_
                                    have qc__291 : cF fr_223 a0_ = _ := hG_289
                                    have qc__292 : cF fr_223 a0_ = _ := hG_289
                                    have hs_293 := sE_1 g 0 rfl (by have h9_0 := bop_; unfold bd at h9_0; have h9_1 := b_14; unfold bd at h9_1; have h9_2 := bw298_14_10_a0_; unfold bd at h9_2; have h9_3 := bw313_14_10_a0_; unfold bd at h9_3; have h9_4 := b_23; unfold bd at h9_4; have h9_5 := b_210; unfold bd at h9_5; have h9_6 := h_204; unfold bd at h9_6; have h9_7 := h_227; unfold bd at h9_7; have h9_8 := bx_24; unfold bd at h9_8; have h9_9 := b_69; unfold bd at h9_9; have h9_10 := b_169; unfold bd at h9_10; have h9_11 := b_188; unfold bd at h9_11; have h8_0 := kb_0; unfold bd at h8_0; have h8_1 := kb_1; unfold bd at h8_1; have h8_2 := kb_8; unfold bd at h8_2; have h8_3 := kb_m1; unfold bd at h8_3; omega)
                                    have go_ := g
                                    refine g_callZv (As := []) (rest := []) ⟨hx, hb, hml, hown, hts⟩ (r_X14_readKept l dC dI L kd tys fr_223 H.size g.2.2.2.1 adK adV a0_ ma0_ ka0_ q0_ mq0_ kq0_ V313 D313 x_59 b_69 op_ bop_ w313_14_10_a0_ bw313_14_10_a0_ hG_287 hki313 (by omega) (by omega) (isV.nrg hG_287 g mq0_ kq0_ (j := 46) (by decide) rfl).1 (K_ - cl313) (by omega) (g.fcts [12, 11, 13, 1] rfl)) (cwV 0 hts (gV_ t_2456 t_2458 t_111 t_198 t_2459) rfl rfl rfl (by decide +kernel) ⟨(Nat.le_of_ble_eq_true rfl), (Nat.le_of_ble_eq_true rfl)⟩) (pre3VA g hK hAm ma0_ ka0_ (by decide) (q := (RX14, TX14, 67)) rfl) rfl hl.1 rfl (lv_room (Nat.le_of_ble_eq_true rfl)) dX14_readClass_322 (cl_k (K := K_) (k := K_ - cl313) (show cl313 + (K_ - cl313) ≤ K_ by omega)) g hK (by decide) (by decide) (fx' := [(12, 0, q0_, .int y_187), (12, 59, q0_, .ref a_146), (12, 15, q0_, .ref a_136), (12, 13, q0_, .ref a_128), (12, 5, q0_, .ref a_120), (12, 4, q0_, .ref a_112), (12, 3, q0_, .ref a_104), (12, 2, q0_, .ref a_96), (12, 1, q0_, .ref a_88), (14, 16, a0_, .int x_59), (14, 2, a0_, .ref q0_)]) rfl (fun xr_294 fr_294 H locs kr_294 cr_294 ecr_294 mxr_294 kxr_294 hp hMr_294 g => ?_) (fun fr_294 H locs kr_294 cr_294 ecr_294 hp hMr_294 g => ?_)
                                    · have hG_295 := mN.frame hMr_294 go_.2.2.2.1 mq0_ kq0_ (by decide) (by decide) hG_290
                                      have hF_296 := FR.call (mds := []) (mas := []) hG_288 go_ mq0_ kq0_ rfl hp.1
                                      have hpk := hp.2
                                      subst hQ
                                      exact leavesX hempty hlocks (fun t ht hW => g_thrZ g hK mxr_294 kxr_294 ⟨hF_296, (by omega)⟩ ht hW) g.2.2.1.2.2
                                    · obtain ⟨hx_297, x_298, h_299, hF_300⟩ := hp
                                      have hG_301 := mN.frame hMr_294 go_.2.2.2.1 mq0_ kq0_ (by decide) (by decide) hG_290
                                      obtain ⟨V_302, D_303, E_304, hV_305, hF_306, hE_307, hki_308, hP_309, hn_310, hs_311, hk_312, hc_313⟩ := rdk_use hx_297 hG_289
                                      have hF_314 := FR.call (mds := []) (mas := []) hG_288 go_ mq0_ kq0_ rfl hF_306
                                      have mxE_304 : E_304 ≤ 1202 := by have h9 := cF_le g ma0_ ka0_; have h8 : cF _ _ = _ := hE_307; omega
                                      have hck_315 : cr_294 ≤ K_ := by omega
                                      have g := g.more hF_300
                                      refine lv_goto (tgt := 313) hx hb dX14_readClass_325 (by decide) ?_
                                      have hl9 := lv_sub hl [0] (by rfl : lv_pick [(0, .ref a0_)] [0] = [(0, .ref a0_)])
                                      have g9 := g.sub (fx' := [(14, 10, a0_, .int x_298), (12, 0, q0_, .int y_187), (12, 59, q0_, .ref a_146), (12, 15, q0_, .ref a_136), (12, 13, q0_, .ref a_128), (12, 5, q0_, .ref a_120), (12, 4, q0_, .ref a_112), (12, 3, q0_, .ref a_104), (12, 2, q0_, .ref a_96), (12, 1, q0_, .ref a_88), (14, 16, a0_, .int x_59), (14, 2, a0_, .ref q0_), (14, 25, a0_, .int op_)]) [1, 2, 3, 4, 5, 6, 7, 8, 9, 10, 11, 12, 0] rfl
                                      exact ih313  x_298 h_299 (by have h9_0 := bw313_14_10_a0_; unfold bd at h9_0; have h9_1 := h_299; unfold bd at h9_1; have h9_2 := kb_0; unfold bd at h9_2; have h9_3 := kb_1; unfold bd at h9_3; have h9_4 := kb_8; unfold bd at h9_4; have h9_5 := kb_m1; unfold bd at h9_5; omega) _ _ _ _ _ g9 ⟨_, _, _, hV_305, hF_314, hE_307, hki_308, hG_301, (by omega), (by omega), (by omega), (by omega), (by omega), hck_315, (by omega)⟩ hl9
                              have hl9 := lv_sub hl [0] (by rfl : lv_pick [(0, .ref a0_)] [0] = [(0, .ref a0_)])
                              have g9 := g.sub (fx' := [(14, 10, a0_, .int w298_14_10_a0_), (12, 0, q0_, .int y_187), (12, 59, q0_, .ref a_146), (12, 15, q0_, .ref a_136), (12, 13, q0_, .ref a_128), (12, 5, q0_, .ref a_120), (12, 4, q0_, .ref a_112), (12, 3, q0_, .ref a_104), (12, 2, q0_, .ref a_96), (12, 1, q0_, .ref a_88), (14, 16, a0_, .int x_59), (14, 2, a0_, .ref q0_), (14, 25, a0_, .int op_)]) [0, 1, 2, 3, 4, 5, 6, 7, 8, 9, 10, 11, 12] rfl
                              exact loop_222 (1300) w298_14_10_a0_ bw298_14_10_a0_ (by have h9_0 := bw298_14_10_a0_; unfold bd at h9_0; have h9_1 := kb_0; unfold bd at h9_1; have h9_2 := kb_1; unfold bd at h9_2; have h9_3 := kb_8; unfold bd at h9_3; have h9_4 := kb_m1; unfold bd at h9_4; omega) _ _ _ _ _ g9 ⟨_, _, _, hG_218, hG_219, hG_220, hki298, hG_221, (by omega), (by omega), (by omega), (by omega), (by omega), hck298, (by omega)⟩ hl9
                            · have hG_316 := isV.frame hMr_212 go_.2.2.2.1 mq0_ kq0_ (by decide) (by decide) hV298
                              have hG_317 := FR.frame hMr_212 go_.2.2.2.1 mq0_ kq0_ (by decide) (by decide) hF298
                              have hG_318 := cEq.frame hMr_212 go_.2.2.2.1 ma0_ ka0_ (by decide) (by decide) hC298
                              have hG_319 := mN.frame hMr_212 go_.2.2.2.1 mq0_ kq0_ (by decide) (by decide) hmm298
                              obtain rfl : r_212 = 1 := h_214
                              have g := g.more hF_217
                              refine lv_if_eq (tgt := 313) hx hb dX14_readClass_303 (by decide) (fun c_ => absurd c_ (by decide)) (fun c_ => ?_)
                              refine lv_aload_n hx hb dX14_readClass_306 rfl (lv_at hl 0 rfl) ?_
                              have qc__320 : cF fr_212 a0_ = _ := hG_318
                              have qc__321 : cF fr_212 a0_ = _ := hG_318
                              have hs_322 := sE_1 g 0 rfl (by have h9_0 := bop_; unfold bd at h9_0; have h9_1 := b_14; unfold bd at h9_1; have h9_2 := bw298_14_10_a0_; unfold bd at h9_2; have h9_3 := b_23; unfold bd at h9_3; have h9_4 := b_210; unfold bd at h9_4; have h9_5 := h_204; unfold bd at h9_5; have h9_6 := h_216; unfold bd at h9_6; have h9_7 := bx_24; unfold bd at h9_7; have h9_8 := b_69; unfold bd at h9_8; have h9_9 := b_169; unfold bd at h9_9; have h9_10 := b_188; unfold bd at h9_10; have h8_0 := kb_0; unfold bd at h8_0; have h8_1 := kb_1; unfold bd at h8_1; have h8_2 := kb_8; unfold bd at h8_2; have h8_3 := kb_m1; unfold bd at h8_3; omega)
                              have go_ := g
                              refine g_callZv (As := []) (rest := []) ⟨hx, hb, hml, hown, hts⟩ (r_X14_readField l dC dI L kd tys fr_212 H.size g.2.2.2.1 adK adV a0_ ma0_ ka0_ q0_ mq0_ kq0_ V298 D298 x_59 b_69 op_ bop_ w298_14_10_a0_ bw298_14_10_a0_ hG_316 hki298 (by omega) (by omega) (isV.nrg hG_316 g mq0_ kq0_ (j := 46) (by decide) rfl).1 (K_ - cl298) (by omega) (g.fcts [12, 11, 13, 1] rfl)) (cwV 0 hts (gV_ t_2439 t_2441 t_109 t_198 t_2442) rfl rfl rfl (by decide +kernel) ⟨(Nat.le_of_ble_eq_true rfl), (Nat.le_of_ble_eq_true rfl)⟩) (pre3VA g hK hAm ma0_ ka0_ (by decide) (q := (RX14, TX14, 67)) rfl) rfl hl.1 rfl (lv_room (Nat.le_of_ble_eq_true rfl)) dX14_readClass_307 (cl_k (K := K_) (k := K_ - cl298) (show cl298 + (K_ - cl298) ≤ K_ by omega)) g hK (by decide) (by decide) (fx' := [(12, 0, q0_, .int y_187), (12, 59, q0_, .ref a_146), (12, 15, q0_, .ref a_136), (12, 13, q0_, .ref a_128), (12, 5, q0_, .ref a_120), (12, 4, q0_, .ref a_112), (12, 3, q0_, .ref a_104), (12, 2, q0_, .ref a_96), (12, 1, q0_, .ref a_88), (14, 16, a0_, .int x_59), (14, 2, a0_, .ref q0_)]) rfl (fun xr_323 fr_323 H locs kr_323 cr_323 ecr_323 mxr_323 kxr_323 hp hMr_323 g => ?_) (fun fr_323 H locs kr_323 cr_323 ecr_323 hp hMr_323 g => ?_)
                              · have hG_324 := mN.frame hMr_323 go_.2.2.2.1 mq0_ kq0_ (by decide) (by decide) hG_319
                                have hF_325 := FR.call (mds := []) (mas := []) hG_317 go_ mq0_ kq0_ rfl hp.1
                                have hpk := hp.2
                                subst hQ
                                exact leavesX hempty hlocks (fun t ht hW => g_thrZ g hK mxr_323 kxr_323 ⟨hF_325, (by omega)⟩ ht hW) g.2.2.1.2.2
                              · obtain ⟨hx_326, x_327, h_328, hF_329⟩ := hp
                                have hG_330 := mN.frame hMr_323 go_.2.2.2.1 mq0_ kq0_ (by decide) (by decide) hG_319
                                obtain ⟨V_331, D_332, E_333, hV_334, hF_335, hE_336, hki_337, hP_338, hn_339, hs_340, hk_341, hc_342⟩ := rdk_use hx_326 hG_318
                                have hF_343 := FR.call (mds := []) (mas := []) hG_317 go_ mq0_ kq0_ rfl hF_335
                                have mxE_333 : E_333 ≤ 1202 := by have h9 := cF_le g ma0_ ka0_; have h8 : cF _ _ = _ := hE_336; omega
                                have hck_344 : cr_323 ≤ K_ := by omega
                                have g := g.more hF_329
                                refine lv_goto (tgt := 298) hx hb dX14_readClass_310 (by decide) ?_
                                have hl9 := lv_sub hl [0] (by rfl : lv_pick [(0, .ref a0_)] [0] = [(0, .ref a0_)])
                                have g9 := g.sub (fx' := [(14, 10, a0_, .int x_327), (12, 0, q0_, .int y_187), (12, 59, q0_, .ref a_146), (12, 15, q0_, .ref a_136), (12, 13, q0_, .ref a_128), (12, 5, q0_, .ref a_120), (12, 4, q0_, .ref a_112), (12, 3, q0_, .ref a_104), (12, 2, q0_, .ref a_96), (12, 1, q0_, .ref a_88), (14, 16, a0_, .int x_59), (14, 2, a0_, .ref q0_), (14, 25, a0_, .int op_)]) [1, 2, 3, 4, 5, 6, 7, 8, 9, 10, 11, 12, 0] rfl
                                exact ih298  x_327 h_328 (by have h9_0 := bw298_14_10_a0_; unfold bd at h9_0; have h9_1 := h_328; unfold bd at h9_1; have h9_2 := kb_0; unfold bd at h9_2; have h9_3 := kb_1; unfold bd at h9_3; have h9_4 := kb_8; unfold bd at h9_4; have h9_5 := kb_m1; unfold bd at h9_5; omega) _ _ _ _ _ g9 ⟨_, _, _, hV_334, hF_343, hE_336, hki_337, hG_330, (by omega), (by omega), (by omega), (by omega), (by omega), hck_344, (by omega)⟩ hl9
                        have hl9 := lv_sub hl [0] (by rfl : lv_pick [(0, .ref a0_)] [0] = [(0, .ref a0_)])
                        have g9 := g.sub (fx' := [(14, 10, a0_, .int x_203), (12, 0, q0_, .int y_187), (12, 59, q0_, .ref a_146), (12, 15, q0_, .ref a_136), (12, 13, q0_, .ref a_128), (12, 5, q0_, .ref a_120), (12, 4, q0_, .ref a_112), (12, 3, q0_, .ref a_104), (12, 2, q0_, .ref a_96), (12, 1, q0_, .ref a_88), (14, 16, a0_, .int x_59), (14, 2, a0_, .ref q0_), (14, 25, a0_, .int op_)]) [0, 1, 2, 3, 4, 5, 6, 7, 8, 9, 10, 11, 12] rfl
                        have qn__345 : (((((((((V_.ul 1 x_59.toNatClampNeg x_35).ul 2 x_59.toNatClampNeg x_36).ui 3 x_59.toNatClampNeg ((-1) : Int32)).ui 4 x_59.toNatClampNeg (0 : Int32)).ui 5 x_59.toNatClampNeg (0 : Int32)).ui 13 x_59.toNatClampNeg (0 : Int32)).ui 15 x_59.toNatClampNeg (0 : Int32)).un 0 y_187).n 57).toInt = (V_.n 57).toInt ∧ (((((((((V_.ul 1 x_59.toNatClampNeg x_35).ul 2 x_59.toNatClampNeg x_36).ui 3 x_59.toNatClampNeg ((-1) : Int32)).ui 4 x_59.toNatClampNeg (0 : Int32)).ui 5 x_59.toNatClampNeg (0 : Int32)).ui 13 x_59.toNatClampNeg (0 : Int32)).ui 15 x_59.toNatClampNeg (0 : Int32)).un 0 y_187).n 46).toInt = (V_.n 46).toInt := ⟨rfl, rfl⟩
                        exact loop_211 (1300) x_203 h_204 (by have h9_0 := h_204; unfold bd at h9_0; have h9_1 := kb_0; unfold bd at h9_1; have h9_2 := kb_1; unfold bd at h9_2; have h9_3 := kb_8; unfold bd at h9_3; have h9_4 := kb_m1; unfold bd at h9_4; omega) _ _ _ _ _ g9 ⟨_, _, _, hG_207, hG_208, hE_209, hki_196, hG_206, (by omega), (by omega), (by omega), (by omega), (by omega), hck_0, (by omega)⟩ hl9
                    · have hG_346 := isV.frame hMr_170 go_.2.2.2.1 mq0_ kq0_ (by decide) (by decide) hG_165
                      have hG_347 := FR.frame hMr_170 go_.2.2.2.1 mq0_ kq0_ (by decide) (by decide) hG_166
                      have hG_348 := mN.frame hMr_170 go_.2.2.2.1 mq0_ kq0_ (by decide) (by decide) hG_167
                      obtain rfl : r_170 = 1 := h_178
                      obtain ⟨E_349, hE_349⟩ : ∃ E : Int, cEq fr_170 a0_ E := ⟨_, rfl⟩
                      have mxE_349 : E_349 ≤ 1202 := by have h9 := cF_le g ma0_ ka0_; have h8 : cF _ _ = _ := hE_349; omega
                      have lE_349 : E_168 + 1 ≤ E_349 := by have h9 := hx_177; have h8 : cF _ _ = _ := hE_349; have h7 : cF _ _ = _ := hE_168; omega
                      have b_350 : bd 0 1200 x_162 := eqX rfl h_163 h_179 (by decide)
                      have g := g.more hF_182
                      refine lv_if_eq (tgt := 279) hx hb dX14_readClass_213 (by decide) (fun c_ => absurd c_ (by decide)) (fun c_ => ?_)
                      refine lv_aload_n hx hb dX14_readClass_216 rfl (lv_at hl 0 rfl) ?_
                      refine lv_aload_n hx hb dX14_readClass_217 rfl (lv_at hl 0 rfl) ?_
                      refine g_geti (C := RX14) (T := TX14) (N := 67) hx hb hts (mc_ inX14) hown hK g ma0_ ka0_ (by decide) rfl 6 (by decide) rfl (hts _ (List.mem_cons_of_mem _ t_2152)) (fun _ h9 => h9) rfl dX14_readClass_218 (fun x_351 bx_351 g => ?_)
                      refine lv_iconst (v := 1) hx hb dX14_readClass_221 (by decide) ?_
                      refine lv_icmp_ne (tgt := 229) hx hb dX14_readClass_222 (by decide) (fun c_352 => ?_) (fun c_352 => ?_)
                      · have fc_352 := neq_f c_352
                        refine lv_iconst (v := 0) hx hb dX14_readClass_229 (by decide) ?_
                        refine lv_iconst (v := 1) hx hb dX14_readClass_230 (by decide) ?_
                        refine lv_aload_n hx hb dX14_readClass_231 rfl (lv_at hl 0 rfl) ?_
                        refine g_geti (C := RX14) (T := TX14) (N := 67) hx hb hts (mc_ inX14) hown hK g ma0_ ka0_ (by decide) rfl 8 (by decide) rfl (hts _ (List.mem_cons_of_mem _ t_2154)) (fun _ h9 => h9) rfl dX14_readClass_232 (fun x_353 bx_353 g => ?_)
                        have go_ := g
                        refine g_callEv (As := [.int 0, .int 1, .int x_353]) (rest := []) ⟨hx, hb, hml, hown, hts⟩ (r_X14_need_2 l dC dI L kd tys fr_170 H.size g.2.2.2.1 a0_ ma0_ ka0_ 0 kb_0 1 x_353) (cwV 3 hts (gV_ t_2403 t_2405 t_100 t_198 t_2406) rfl rfl rfl (by decide +kernel) ⟨(Nat.le_of_ble_eq_true rfl), (Nat.le_of_ble_eq_true rfl)⟩) (pre3V g hK ma0_ ka0_ (by decide) (q := (RX14, TX14, 67)) rfl) rfl hl.1 rfl (lv_room (Nat.le_of_ble_eq_true rfl)) dX14_readClass_235 (cl_f hck_0) g hK (by decide) (by decide) (fx' := [(14, 8, a0_, .int x_353), (14, 6, a0_, .int x_351), (14, 10, a0_, .int x_180), (12, 59, q0_, .ref a_146), (12, 15, q0_, .ref a_136), (12, 13, q0_, .ref a_128), (12, 5, q0_, .ref a_120), (12, 4, q0_, .ref a_112), (12, 3, q0_, .ref a_104), (12, 2, q0_, .ref a_96), (12, 1, q0_, .ref a_88), (14, 16, a0_, .int x_59), (12, 0, q0_, .int x_59), (14, 2, a0_, .ref q0_), (14, 25, a0_, .int op_)]) rfl (fun xr_354 fr_354 H locs mxr_354 kxr_354 hp hMr_354 g => ?_) (fun fr_354 H locs hp hMr_354 g => ?_)
                        · have hG_355 := isV.frame hMr_354 go_.2.2.2.1 mq0_ kq0_ (by decide) (by decide) hG_346
                          have hG_356 := FR.frame hMr_354 go_.2.2.2.1 mq0_ kq0_ (by decide) (by decide) hG_347
                          have hG_357 := mN.frame hMr_354 go_.2.2.2.1 mq0_ kq0_ (by decide) (by decide) hG_348
                          have hG_358 := cEq.frame hMr_354 go_.2.2.2.1 ma0_ ka0_ (by decide) (by decide) hE_349
                          subst hQ
                          exact leavesX hempty hlocks (fun t ht hW => g_thrZ g hK mxr_354 kxr_354 ⟨hG_356, (by omega)⟩ ht hW) g.2.2.1.2.2
                        · exact hp.elim
                      · have fc_352 := eq_f c_352
                        have b_359 : bd 1 1 x_351 := eqX fc_352 bx_351 kb_1 (by decide)
                        refine lv_iconst (v := 1) hx hb dX14_readClass_225 (by decide) ?_
                        refine lv_goto (tgt := 230) hx hb dX14_readClass_226 (by decide) ?_
                        refine lv_iconst (v := 1) hx hb dX14_readClass_230 (by decide) ?_
                        refine lv_aload_n hx hb dX14_readClass_231 rfl (lv_at hl 0 rfl) ?_
                        refine g_geti (C := RX14) (T := TX14) (N := 67) hx hb hts (mc_ inX14) hown hK g ma0_ ka0_ (by decide) rfl 8 (by decide) rfl (hts _ (List.mem_cons_of_mem _ t_2154)) (fun _ h9 => h9) rfl dX14_readClass_232 (fun x_360 bx_360 g => ?_)
                        have hs_361 := sE_1 g 1 rfl (by have h9_0 := bop_; unfold bd at h9_0; have h9_1 := b_14; unfold bd at h9_1; have h9_2 := b_23; unfold bd at h9_2; have h9_3 := b_350; unfold bd at h9_3; have h9_4 := h_181; unfold bd at h9_4; have h9_5 := bx_24; unfold bd at h9_5; have h9_6 := b_359; unfold bd at h9_6; have h9_7 := bx_360; unfold bd at h9_7; have h9_8 := b_69; unfold bd at h9_8; have h9_9 := b_169; unfold bd at h9_9; have h8_0 := kb_0; unfold bd at h8_0; have h8_1 := kb_1; unfold bd at h8_1; have h8_2 := kb_8; unfold bd at h8_2; have h8_3 := kb_m1; unfold bd at h8_3; omega)
                        have go_ := g
                        refine g_callEv (As := [.int 1, .int 1, .int x_360]) (rest := []) ⟨hx, hb, hml, hown, hts⟩ (r_X14_need_3 l dC dI L kd tys fr_170 H.size g.2.2.2.1 a0_ ma0_ ka0_ 1 kb_1 1 x_360) (cwV 3 hts (gV_ t_2403 t_2405 t_100 t_198 t_2406) rfl rfl rfl (by decide +kernel) ⟨(Nat.le_of_ble_eq_true rfl), (Nat.le_of_ble_eq_true rfl)⟩) (pre3V g hK ma0_ ka0_ (by decide) (q := (RX14, TX14, 67)) rfl) rfl hl.1 rfl (lv_room (Nat.le_of_ble_eq_true rfl)) dX14_readClass_235 (cl_f hck_0) g hK (by decide) (by decide) (fx' := [(14, 8, a0_, .int x_360), (14, 6, a0_, .int x_351), (14, 10, a0_, .int x_180), (12, 59, q0_, .ref a_146), (12, 15, q0_, .ref a_136), (12, 13, q0_, .ref a_128), (12, 5, q0_, .ref a_120), (12, 4, q0_, .ref a_112), (12, 3, q0_, .ref a_104), (12, 2, q0_, .ref a_96), (12, 1, q0_, .ref a_88), (14, 16, a0_, .int x_59), (12, 0, q0_, .int x_59), (14, 2, a0_, .ref q0_), (14, 25, a0_, .int op_)]) rfl (fun xr_362 fr_362 H locs mxr_362 kxr_362 hp hMr_362 g => ?_) (fun fr_362 H locs hp hMr_362 g => ?_)
                        · have hG_363 := isV.frame hMr_362 go_.2.2.2.1 mq0_ kq0_ (by decide) (by decide) hG_346
                          have hG_364 := FR.frame hMr_362 go_.2.2.2.1 mq0_ kq0_ (by decide) (by decide) hG_347
                          have hG_365 := mN.frame hMr_362 go_.2.2.2.1 mq0_ kq0_ (by decide) (by decide) hG_348
                          have hG_366 := cEq.frame hMr_362 go_.2.2.2.1 ma0_ ka0_ (by decide) (by decide) hE_349
                          exact hp.elim
                        · have hG_367 := isV.frame hMr_362 go_.2.2.2.1 mq0_ kq0_ (by decide) (by decide) hG_346
                          have hG_368 := FR.frame hMr_362 go_.2.2.2.1 mq0_ kq0_ (by decide) (by decide) hG_347
                          have hG_369 := mN.frame hMr_362 go_.2.2.2.1 mq0_ kq0_ (by decide) (by decide) hG_348
                          have hG_370 := cEq.frame hMr_362 go_.2.2.2.1 ma0_ ka0_ (by decide) (by decide) hE_349
                          refine lv_aload_n hx hb dX14_readClass_238 rfl (lv_at hl 0 rfl) ?_
                          refine lv_aload_n hx hb dX14_readClass_239 rfl (lv_at hl 0 rfl) ?_
                          refine g_getl (C := RX14) (T := TX14) (N := 67) hx hb hts (mc_ inX14) hown hK g ma0_ ka0_ (by decide) rfl 12 (by decide) rfl (hts _ (List.mem_cons_of_mem _ t_2158)) (fun _ h9 => h9) rfl dX14_readClass_240 (fun x_371 g => ?_)
                          refine lv_aload_n hx hb dX14_readClass_243 rfl (lv_at hl 0 rfl) ?_
                          refine g_getl (C := RX14) (T := TX14) (N := 67) hx hb hts (mc_ inX14) hown hK g ma0_ ka0_ (by decide) rfl 13 (by decide) rfl (hts _ (List.mem_cons_of_mem _ t_2159)) (fun _ h9 => h9) rfl dX14_readClass_244 (fun x_372 g => ?_)
                          have hs_373 := sE_1 g 3 rfl (by have h9_0 := bop_; unfold bd at h9_0; have h9_1 := b_14; unfold bd at h9_1; have h9_2 := b_23; unfold bd at h9_2; have h9_3 := b_350; unfold bd at h9_3; have h9_4 := h_181; unfold bd at h9_4; have h9_5 := bx_24; unfold bd at h9_5; have h9_6 := b_359; unfold bd at h9_6; have h9_7 := bx_360; unfold bd at h9_7; have h9_8 := b_69; unfold bd at h9_8; have h9_9 := b_169; unfold bd at h9_9; have h8_0 := kb_0; unfold bd at h8_0; have h8_1 := kb_1; unfold bd at h8_1; have h8_2 := kb_8; unfold bd at h8_2; have h8_3 := kb_m1; unfold bd at h8_3; omega)
                          have go_ := g
                          refine g_calli (va_runV (As := [.long x_371, .long x_372]) (rest := []) ⟨hx, hb, hml, hown, hts⟩ (r_X14_classOf_2 l dC dI L kd tys fr_362 H.size g.2.2.2.1 a0_ ma0_ ka0_ x_371 x_372 q0_ mq0_ kq0_ (((((((V_.ul 1 x_59.toNatClampNeg x_35).ul 2 x_59.toNatClampNeg x_36).ui 3 x_59.toNatClampNeg ((-1) : Int32)).ui 4 x_59.toNatClampNeg (0 : Int32)).ui 5 x_59.toNatClampNeg (0 : Int32)).ui 13 x_59.toNatClampNeg (0 : Int32)).ui 15 x_59.toNatClampNeg (0 : Int32)) hG_367 (g.fcts [15] rfl)) (cwV 2 hts (gV_ t_2419 t_2421 t_104 t_198 t_2422) rfl rfl rfl (by decide +kernel) ⟨(Nat.le_of_ble_eq_true rfl), (Nat.le_of_ble_eq_true rfl)⟩) (pre3V g hK ma0_ ka0_ (by decide) (q := (RX14, TX14, 67)) rfl) rfl rfl hl.1 rfl (lv_room (Nat.le_of_ble_eq_true rfl)) dX14_readClass_247 (cl_f hck_0)) g hK (by decide) (by decide) (fx' := [(14, 13, a0_, .long x_372), (14, 12, a0_, .long x_371), (14, 8, a0_, .int x_360), (14, 6, a0_, .int x_351), (14, 10, a0_, .int x_180), (12, 59, q0_, .ref a_146), (12, 15, q0_, .ref a_136), (12, 13, q0_, .ref a_128), (12, 5, q0_, .ref a_120), (12, 4, q0_, .ref a_112), (12, 3, q0_, .ref a_104), (12, 2, q0_, .ref a_96), (12, 1, q0_, .ref a_88), (14, 16, a0_, .int x_59), (12, 0, q0_, .int x_59), (14, 2, a0_, .ref q0_), (14, 25, a0_, .int op_)]) rfl (fun r_374 fr_374 H locs hp hMr_374 g => ?_)
                          rcases hp with ⟨h_375, -⟩ | ⟨hx_376, h_377, x_378, h_379, hF_380⟩
                          · have hG_381 := isV.frame hMr_374 go_.2.2.2.1 mq0_ kq0_ (by decide) (by decide) hG_367
                            have hG_382 := FR.frame hMr_374 go_.2.2.2.1 mq0_ kq0_ (by decide) (by decide) hG_368
                            have hG_383 := mN.frame hMr_374 go_.2.2.2.1 mq0_ kq0_ (by decide) (by decide) hG_369
                            have hG_384 := cEq.frame hMr_374 go_.2.2.2.1 ma0_ ka0_ (by decide) (by decide) hG_370
                            obtain rfl : r_374 = (-1) := h_375
                            refine lv_istore_n (lv' := [(1, .int (-1)), (0, .ref a0_)]) hx hb dX14_readClass_250 rfl hl (by decide) rfl (fun ls hl => ?_)
                            refine lv_aload_n hx hb dX14_readClass_251 rfl (lv_at hl 1 rfl) ?_
                            refine lv_iload_n hx hb dX14_readClass_252 rfl (lv_at hl 0 rfl) ?_
                            refine lv_iconst (v := (-1)) hx hb dX14_readClass_253 (by decide) ?_
                            refine lv_icmp_eq (tgt := 261) hx hb dX14_readClass_254 (by decide) (fun c_ => ?_) (fun c_ => absurd (by decide) c_)
                            refine lv_iconst (v := 0) hx hb dX14_readClass_261 (by decide) ?_
                            refine lv_iconst (v := 2) hx hb dX14_readClass_262 (by decide) ?_
                            refine lv_aload_n hx hb dX14_readClass_263 rfl (lv_at hl 1 rfl) ?_
                            refine g_getk (C := RX14) (T := TX14) (N := 67) hx hb hts (mc_ inX14) hown hK g rfl 8 (by decide) rfl (hts _ (List.mem_cons_of_mem _ t_2154)) (fun _ h9 => h9) 2 rfl dX14_readClass_264 ?_
                            have hs_385 := sE_1 g 3 rfl (by have h9_0 := bop_; unfold bd at h9_0; have h9_1 := b_14; unfold bd at h9_1; have h9_2 := b_23; unfold bd at h9_2; have h9_3 := b_350; unfold bd at h9_3; have h9_4 := h_181; unfold bd at h9_4; have h9_5 := bx_24; unfold bd at h9_5; have h9_6 := b_359; unfold bd at h9_6; have h9_7 := bx_360; unfold bd at h9_7; have h9_8 := b_69; unfold bd at h9_8; have h9_9 := b_169; unfold bd at h9_9; have h8_0 := kb_0; unfold bd at h8_0; have h8_1 := kb_1; unfold bd at h8_1; have h8_2 := kb_8; unfold bd at h8_2; have h8_3 := kb_m1; unfold bd at h8_3; omega)
                            have go_ := g
                            refine g_callEv (As := [.int 0, .int 2, .int x_360]) (rest := []) ⟨hx, hb, hml, hown, hts⟩ (r_X14_need_2 l dC dI L kd tys fr_374 H.size g.2.2.2.1 a0_ ma0_ ka0_ 0 kb_0 2 x_360) (cwV 3 hts (gV_ t_2403 t_2405 t_100 t_198 t_2406) rfl rfl rfl (by decide +kernel) ⟨(Nat.le_of_ble_eq_true rfl), (Nat.le_of_ble_eq_true rfl)⟩) (pre3V g hK ma0_ ka0_ (by decide) (q := (RX14, TX14, 67)) rfl) rfl hl.1 rfl (lv_room (Nat.le_of_ble_eq_true rfl)) dX14_readClass_267 (cl_f hck_0) g hK (by decide) (by decide) (fx' := [(14, 13, a0_, .long x_372), (14, 12, a0_, .long x_371), (14, 8, a0_, .int x_360), (14, 6, a0_, .int x_351), (14, 10, a0_, .int x_180), (12, 59, q0_, .ref a_146), (12, 15, q0_, .ref a_136), (12, 13, q0_, .ref a_128), (12, 5, q0_, .ref a_120), (12, 4, q0_, .ref a_112), (12, 3, q0_, .ref a_104), (12, 2, q0_, .ref a_96), (12, 1, q0_, .ref a_88), (14, 16, a0_, .int x_59), (12, 0, q0_, .int x_59), (14, 2, a0_, .ref q0_), (14, 25, a0_, .int op_)]) rfl (fun xr_386 fr_386 H locs mxr_386 kxr_386 hp hMr_386 g => ?_) (fun fr_386 H locs hp hMr_386 g => ?_)
                            · have hG_387 := isV.frame hMr_386 go_.2.2.2.1 mq0_ kq0_ (by decide) (by decide) hG_381
                              have hG_388 := FR.frame hMr_386 go_.2.2.2.1 mq0_ kq0_ (by decide) (by decide) hG_382
                              have hG_389 := mN.frame hMr_386 go_.2.2.2.1 mq0_ kq0_ (by decide) (by decide) hG_383
                              have hG_390 := cEq.frame hMr_386 go_.2.2.2.1 ma0_ ka0_ (by decide) (by decide) hG_384
                              subst hQ
                              exact leavesX hempty hlocks (fun t ht hW => g_thrZ g hK mxr_386 kxr_386 ⟨hG_388, (by omega)⟩ ht hW) g.2.2.1.2.2
                            · exact hp.elim
                          · have hG_391 := isV.frame hMr_374 go_.2.2.2.1 mq0_ kq0_ (by decide) (by decide) hG_367
                            have hG_392 := FR.frame hMr_374 go_.2.2.2.1 mq0_ kq0_ (by decide) (by decide) hG_368
                            have hG_393 := mN.frame hMr_374 go_.2.2.2.1 mq0_ kq0_ (by decide) (by decide) hG_369
                            have hG_394 := cEq.frame hMr_374 go_.2.2.2.1 ma0_ ka0_ (by decide) (by decide) hG_370
                            have g := g.more hF_380
                            have e_395 := fx_same g 15 0 rfl rfl
                            have b_396 : bd 1 7 x_59 := eqX (eq_f e_395.symm) b_69 h_379 (by decide)
                            have g := g.sub (fx' := [(14, 13, a0_, .long x_372), (14, 12, a0_, .long x_371), (14, 8, a0_, .int x_360), (14, 6, a0_, .int x_351), (14, 10, a0_, .int x_180), (12, 59, q0_, .ref a_146), (12, 15, q0_, .ref a_136), (12, 13, q0_, .ref a_128), (12, 5, q0_, .ref a_120), (12, 4, q0_, .ref a_112), (12, 3, q0_, .ref a_104), (12, 2, q0_, .ref a_96), (12, 1, q0_, .ref a_88), (14, 16, a0_, .int x_59), (12, 0, q0_, .int x_59), (14, 2, a0_, .ref q0_), (14, 25, a0_, .int op_)]) [1, 2, 3, 4, 5, 6, 7, 8, 9, 10, 11, 12, 13, 14, 15, 16, 17] rfl
                            refine lv_istore_n (lv' := [(1, .int r_374), (0, .ref a0_)]) hx hb dX14_readClass_250 rfl hl (by decide) rfl (fun ls hl => ?_)
                            refine lv_aload_n hx hb dX14_readClass_251 rfl (lv_at hl 1 rfl) ?_
                            refine lv_iload_n hx hb dX14_readClass_252 rfl (lv_at hl 0 rfl) ?_
                            refine lv_iconst (v := (-1)) hx hb dX14_readClass_253 (by decide) ?_
                            refine lv_icmp_eq (tgt := 261) hx hb dX14_readClass_254 (by decide) (fun c_397 => ?_) (fun c_397 => ?_)
                            · have fc_397 := eq_f c_397
                              have b_398 : bd 0 (-1) r_374 := eqX fc_397 h_377 kb_m1 (by decide)
                              exact bd_no b_398 (by decide)
                            · have fc_397 := neq_f c_397
                              refine lv_iconst (v := 1) hx hb dX14_readClass_257 (by decide) ?_
                              refine lv_goto (tgt := 262) hx hb dX14_readClass_258 (by decide) ?_
                              refine lv_iconst (v := 2) hx hb dX14_readClass_262 (by decide) ?_
                              refine lv_aload_n hx hb dX14_readClass_263 rfl (lv_at hl 1 rfl) ?_
                              refine g_getk (C := RX14) (T := TX14) (N := 67) hx hb hts (mc_ inX14) hown hK g rfl 8 (by decide) rfl (hts _ (List.mem_cons_of_mem _ t_2154)) (fun _ h9 => h9) 2 rfl dX14_readClass_264 ?_
                              have hs_399 := sE_1 g 3 rfl (by have h9_0 := bop_; unfold bd at h9_0; have h9_1 := h_377; unfold bd at h9_1; have h9_2 := b_14; unfold bd at h9_2; have h9_3 := b_23; unfold bd at h9_3; have h9_4 := b_350; unfold bd at h9_4; have h9_5 := h_181; unfold bd at h9_5; have h9_6 := bx_24; unfold bd at h9_6; have h9_7 := b_359; unfold bd at h9_7; have h9_8 := bx_360; unfold bd at h9_8; have h9_9 := h_379; unfold bd at h9_9; have h9_10 := b_396; unfold bd at h9_10; have h9_11 := b_169; unfold bd at h9_11; have h8_0 := kb_0; unfold bd at h8_0; have h8_1 := kb_1; unfold bd at h8_1; have h8_2 := kb_8; unfold bd at h8_2; have h8_3 := kb_m1; unfold bd at h8_3; omega)
                              have go_ := g
                              refine g_callEv (As := [.int 1, .int 2, .int x_360]) (rest := []) ⟨hx, hb, hml, hown, hts⟩ (r_X14_need_3 l dC dI L kd tys fr_374 H.size g.2.2.2.1 a0_ ma0_ ka0_ 1 kb_1 2 x_360) (cwV 3 hts (gV_ t_2403 t_2405 t_100 t_198 t_2406) rfl rfl rfl (by decide +kernel) ⟨(Nat.le_of_ble_eq_true rfl), (Nat.le_of_ble_eq_true rfl)⟩) (pre3V g hK ma0_ ka0_ (by decide) (q := (RX14, TX14, 67)) rfl) rfl hl.1 rfl (lv_room (Nat.le_of_ble_eq_true rfl)) dX14_readClass_267 (cl_f hck_0) g hK (by decide) (by decide) (fx' := [(14, 13, a0_, .long x_372), (14, 12, a0_, .long x_371), (14, 8, a0_, .int x_360), (14, 6, a0_, .int x_351), (14, 10, a0_, .int x_180), (12, 59, q0_, .ref a_146), (12, 15, q0_, .ref a_136), (12, 13, q0_, .ref a_128), (12, 5, q0_, .ref a_120), (12, 4, q0_, .ref a_112), (12, 3, q0_, .ref a_104), (12, 2, q0_, .ref a_96), (12, 1, q0_, .ref a_88), (14, 16, a0_, .int x_59), (12, 0, q0_, .int x_59), (14, 2, a0_, .ref q0_), (14, 25, a0_, .int op_)]) rfl (fun xr_400 fr_400 H locs mxr_400 kxr_400 hp hMr_400 g => ?_) (fun fr_400 H locs hp hMr_400 g => ?_)
                              · have hG_401 := isV.frame hMr_400 go_.2.2.2.1 mq0_ kq0_ (by decide) (by decide) hG_391
                                have hG_402 := FR.frame hMr_400 go_.2.2.2.1 mq0_ kq0_ (by decide) (by decide) hG_392
                                have hG_403 := mN.frame hMr_400 go_.2.2.2.1 mq0_ kq0_ (by decide) (by decide) hG_393
                                have hG_404 := cEq.frame hMr_400 go_.2.2.2.1 ma0_ ka0_ (by decide) (by decide) hG_394
                                exact hp.elim
                              · have hG_405 := isV.frame hMr_400 go_.2.2.2.1 mq0_ kq0_ (by decide) (by decide) hG_391
                                have hG_406 := FR.frame hMr_400 go_.2.2.2.1 mq0_ kq0_ (by decide) (by decide) hG_392
                                have hG_407 := mN.frame hMr_400 go_.2.2.2.1 mq0_ kq0_ (by decide) (by decide) hG_393
                                have hG_408 := cEq.frame hMr_400 go_.2.2.2.1 ma0_ ka0_ (by decide) (by decide) hG_394
                                refine lv_aload_n hx hb dX14_readClass_270 rfl (lv_at hl 1 rfl) ?_
                                have hs_409 := sE_1 g 3 rfl (by have h9_0 := bop_; unfold bd at h9_0; have h9_1 := h_377; unfold bd at h9_1; have h9_2 := b_14; unfold bd at h9_2; have h9_3 := b_23; unfold bd at h9_3; have h9_4 := b_350; unfold bd at h9_4; have h9_5 := h_181; unfold bd at h9_5; have h9_6 := bx_24; unfold bd at h9_6; have h9_7 := b_359; unfold bd at h9_7; have h9_8 := bx_360; unfold bd at h9_8; have h9_9 := h_379; unfold bd at h9_9; have h9_10 := b_396; unfold bd at h9_10; have h9_11 := b_169; unfold bd at h9_11; have h8_0 := kb_0; unfold bd at h8_0; have h8_1 := kb_1; unfold bd at h8_1; have h8_2 := kb_8; unfold bd at h8_2; have h8_3 := kb_m1; unfold bd at h8_3; omega)
                                have go_ := g
                                refine g_callEv (As := []) (rest := []) ⟨hx, hb, hml, hown, hts⟩ (r_X14_next_2 l dC dI L kd tys fr_400 H.size g.2.2.2.1 adK adV a0_ ma0_ ka0_ x_180 h_181 (g.fcts [4] rfl)) (cwV 0 hts (gV_ t_2411 t_2413 t_102 t_198 t_2414) rfl rfl rfl (by decide +kernel) ⟨(Nat.le_of_ble_eq_true rfl), (Nat.le_of_ble_eq_true rfl)⟩) (pre3VA g hK hAm ma0_ ka0_ (by decide) (q := (RX14, TX14, 67)) rfl) rfl hl.1 rfl (lv_room (Nat.le_of_ble_eq_true rfl)) dX14_readClass_271 (cl_f hck_0) g hK (by decide) (by decide) (fx' := [(12, 59, q0_, .ref a_146), (12, 15, q0_, .ref a_136), (12, 13, q0_, .ref a_128), (12, 5, q0_, .ref a_120), (12, 4, q0_, .ref a_112), (12, 3, q0_, .ref a_104), (12, 2, q0_, .ref a_96), (12, 1, q0_, .ref a_88), (14, 16, a0_, .int x_59), (12, 0, q0_, .int x_59), (14, 2, a0_, .ref q0_), (14, 25, a0_, .int op_)]) rfl (fun xr_410 fr_410 H locs mxr_410 kxr_410 hp hMr_410 g => ?_) (fun fr_410 H locs hp hMr_410 g => ?_)
                                · have hG_411 := isV.frame hMr_410 go_.2.2.2.1 mq0_ kq0_ (by decide) (by decide) hG_405
                                  have hG_412 := FR.frame hMr_410 go_.2.2.2.1 mq0_ kq0_ (by decide) (by decide) hG_406
                                  have hG_413 := mN.frame hMr_410 go_.2.2.2.1 mq0_ kq0_ (by decide) (by decide) hG_407
                                  subst hQ
                                  exact leavesX hempty hlocks (fun t ht hW => g_thrZ g hK mxr_410 kxr_410 ⟨hG_412, (by omega)⟩ ht hW) g.2.2.1.2.2
                                · obtain ⟨hx_414, h_415, x_416, h_417, hF_418⟩ := hp
                                  have hG_419 := isV.frame hMr_410 go_.2.2.2.1 mq0_ kq0_ (by decide) (by decide) hG_405
                                  have hG_420 := FR.frame hMr_410 go_.2.2.2.1 mq0_ kq0_ (by decide) (by decide) hG_406
                                  have hG_421 := mN.frame hMr_410 go_.2.2.2.1 mq0_ kq0_ (by decide) (by decide) hG_407
                                  obtain ⟨E_422, hE_422⟩ : ∃ E : Int, cEq fr_410 a0_ E := ⟨_, rfl⟩
                                  have mxE_422 : E_422 ≤ 1202 := by have h9 := cF_le g ma0_ ka0_; have h8 : cF _ _ = _ := hE_422; omega
                                  have lE_422 : E_349 + 1 ≤ E_422 := by have h9 := hx_414; have h8 : cF _ _ = _ := hE_422; have h7 : cF _ _ = _ := hG_408; have h6 := hs_409; have h5 := tk_c (f := fr_400) (t := a0_); omega
                                  have b_423 : bd 0 1200 x_180 := eqX rfl h_181 h_415 (by decide)
                                  have g := g.more hF_418
                                  refine lv_aload_n hx hb dX14_readClass_274 rfl (lv_at hl 1 rfl) ?_
                                  refine lv_iload_n hx hb dX14_readClass_275 rfl (lv_at hl 0 rfl) ?_
                                  have hb_424 : ∀ c : Nat, c < 9 → ((((((((V_.ul 1 x_59.toNatClampNeg x_35).ul 2 x_59.toNatClampNeg x_36).ui 3 x_59.toNatClampNeg ((-1) : Int32)).ui 4 x_59.toNatClampNeg (0 : Int32)).ui 5 x_59.toNatClampNeg (0 : Int32)).ui 13 x_59.toNatClampNeg (0 : Int32)).ui 15 x_59.toNatClampNeg (0 : Int32)).i 15 c).toInt ≤ 12 := (fun c hc => (isV.rng hG_419 g mq0_ kq0_ (j := 15) (K := 171) (by decide) rfl (by decide) rfl hc).2)
                                  have hb_425 : ∀ c : Nat, c < 9 → ((((((((V_.ul 1 x_59.toNatClampNeg x_35).ul 2 x_59.toNatClampNeg x_36).ui 3 x_59.toNatClampNeg ((-1) : Int32)).ui 4 x_59.toNatClampNeg (0 : Int32)).ui 5 x_59.toNatClampNeg (0 : Int32)).ui 13 x_59.toNatClampNeg (0 : Int32)).ui 15 x_59.toNatClampNeg (0 : Int32)).i 4 c).toInt ≤ 10 := (fun c hc => (isV.rng hG_419 g mq0_ kq0_ (j := 4) (K := 160) (by decide) rfl (by decide) rfl hc).2)
                                  have hb_426 : ∀ c : Nat, c < 9 → ((((((((V_.ul 1 x_59.toNatClampNeg x_35).ul 2 x_59.toNatClampNeg x_36).ui 3 x_59.toNatClampNeg ((-1) : Int32)).ui 4 x_59.toNatClampNeg (0 : Int32)).ui 5 x_59.toNatClampNeg (0 : Int32)).ui 13 x_59.toNatClampNeg (0 : Int32)).ui 15 x_59.toNatClampNeg (0 : Int32)).i 13 c).toInt ≤ 8 := (fun c hc => (isV.rng hG_419 g mq0_ kq0_ (j := 13) (K := 169) (by decide) rfl (by decide) rfl hc).2)
                                  have hlt_427 : r_374.toNatClampNeg < x_59.toNatClampNeg := by have h9 : r_374.toInt < x_59.toInt := (by rw [hn_60]; exact hx_376); have h8 := tnZ h_377.1; have h7 := ho7.2; omega
                                  have go_ := g
                                  refine g_callv (va_runV (As := [.int r_374]) (rest := []) ⟨hx, hb, hml, hown, hts⟩ (r_X14_inherit l dC dI L kd tys fr_410 H.size g.2.2.2.1 a0_ ma0_ ka0_ r_374 h_377 q0_ mq0_ kq0_ x_59 (bd_sub b_396 (by decide)) (((((((V_.ul 1 x_59.toNatClampNeg x_35).ul 2 x_59.toNatClampNeg x_36).ui 3 x_59.toNatClampNeg ((-1) : Int32)).ui 4 x_59.toNatClampNeg (0 : Int32)).ui 5 x_59.toNatClampNeg (0 : Int32)).ui 13 x_59.toNatClampNeg (0 : Int32)).ui 15 x_59.toNatClampNeg (0 : Int32)) hG_419 hlt_427 (g.fcts [11, 9] rfl)) (cwV 1 hts (gV_ t_2427 t_2429 t_106 t_198 t_2430) rfl rfl rfl (by decide +kernel) ⟨(Nat.le_of_ble_eq_true rfl), (Nat.le_of_ble_eq_true rfl)⟩) (pre3V g hK ma0_ ka0_ (by decide) (q := (RX14, TX14, 67)) rfl) rfl rfl hl.1 rfl (lv_room (Nat.le_of_ble_eq_true rfl)) dX14_readClass_276 (cl_f hck_0)) g hK (by decide) (by decide) (fx' := [(14, 10, a0_, .int x_416), (12, 59, q0_, .ref a_146), (12, 15, q0_, .ref a_136), (12, 13, q0_, .ref a_128), (12, 5, q0_, .ref a_120), (12, 4, q0_, .ref a_112), (12, 3, q0_, .ref a_104), (12, 2, q0_, .ref a_96), (12, 1, q0_, .ref a_88), (14, 16, a0_, .int x_59), (12, 0, q0_, .int x_59), (14, 2, a0_, .ref q0_), (14, 25, a0_, .int op_)]) rfl (fun fr_428 H locs hp hMr_428 g => ?_)
                                  obtain ⟨hx_429, hx_430, -⟩ := hp
                                  have hG_431 := mN.frame hMr_428 go_.2.2.2.1 mq0_ kq0_ (by decide) (by decide) hG_421
                                  have hG_432 := cEq.frame hMr_428 go_.2.2.2.1 ma0_ ka0_ (by decide) (by decide) hE_422
                                  have hF_433 := FR.call (mds := []) (mas := []) hG_420 go_ mq0_ kq0_ rfl hx_430
                                  obtain ⟨V_434, hV_435, hN_436⟩ := hx_429
                                  have qi__437 : (V_434.n 57).toInt = (V_.n 57).toInt ∧ (V_434.n 46).toInt = (V_.n 46).toInt := by rw [hN_436.2.2.1 57, hN_436.2.2.1 46]; exact ⟨rfl, rfl⟩
                                  refine lv_aload_n hx hb dX14_readClass_279 rfl (lv_at hl 1 rfl) ?_
                                  refine g_getk (C := RX14) (T := TX14) (N := 67) hx hb hts (mc_ inX14) hown hK g rfl 2 (by decide) rfl (hts _ (List.mem_cons_of_mem _ t_2148)) (fun _ h9 => h9) 11 rfl dX14_readClass_280 ?_
                                  refine lv_dup hx hb dX14_readClass_283 rfl ?_
                                  refine g_getk (C := RX12) (T := TX12) (N := 60) hx hb hts (mc_ inX12) hown hK g rfl 0 (by decide) rfl (hts _ (List.mem_cons_of_mem _ t_1906)) (fun _ h9 => h9) 10 rfl dX14_readClass_284 ?_
                                  refine lv_iconst (v := 1) hx hb dX14_readClass_287 (by decide) ?_
                                  refine lv_iadd hx hb dX14_readClass_288 ?_
                                  refine lv_topi (fun y_438 ey_438 => ?_)
                                  have ty_438 := add_bd ey_438 b_396 kb_1 (by decide)
                                  have b_439 : bd 2 8 y_438 := add_rg ty_438 b_396 kb_1 (by decide)
                                  have gp_440 := g
                                  have go_ := g
                                  refine g_putX (C := RX12) (T := TX12) (N := 60) hx hb hts (mc_ inX12) tyX12 tyX12_ok nmX12 hown hK g mq0_ kq0_ (by decide) rfl 0 (by decide) (hts _ (List.mem_cons_of_mem _ t_1906)) (fun _ h9 => h9) rfl rfl (okV_i (bd_sub b_439 (by decide))) rfl rfl (by decide) (Or.inr (Or.inl (by decide))) (fx' := [(14, 10, a0_, .int x_416), (12, 59, q0_, .ref a_146), (12, 15, q0_, .ref a_136), (12, 13, q0_, .ref a_128), (12, 5, q0_, .ref a_120), (12, 4, q0_, .ref a_112), (12, 3, q0_, .ref a_104), (12, 2, q0_, .ref a_96), (12, 1, q0_, .ref a_88), (14, 16, a0_, .int x_59), (14, 2, a0_, .ref q0_), (14, 25, a0_, .int op_)]) rfl dX14_readClass_289 (fun f H locs hM_441 u_444 g => ?_)
                                  have hG_442 := mN.frame hM_441 go_.2.2.2.1 mq0_ kq0_ (by decide) (by decide) hG_431
                                  have hG_443 := cEq.frame hM_441 go_.2.2.2.1 ma0_ ka0_ (by decide) (by decide) hG_432
                                  have hV_445 := isV.un hV_435 gp_440.2.2.2.1 mq0_ kq0_ rfl u_444
                                  have hF_446 := FR.fld hF_433 u_444
                                  have hki_447 : KI (V_434.un 0 y_438) δ_ x_59.toNatClampNeg := inh.open_ hkc_144 hN_436 hlt_427 (tnZ h_377.1).symm ho7.1 (by have h9 := ho7.2; have h9_0 := bop_; unfold bd at h9_0; have h9_1 := h_377; unfold bd at h9_1; have h9_2 := b_14; unfold bd at h9_2; have h9_3 := b_23; unfold bd at h9_3; have h9_4 := b_350; unfold bd at h9_4; have h9_5 := b_423; unfold bd at h9_5; have h9_6 := bx_24; unfold bd at h9_6; have h9_7 := b_359; unfold bd at h9_7; have h9_8 := bx_360; unfold bd at h9_8; have h9_9 := h_379; unfold bd at h9_9; have h9_10 := h_417; unfold bd at h9_10; have h9_11 := b_396; unfold bd at h9_11; have h9_12 := b_169; unfold bd at h9_12; have h9_13 := b_439; unfold bd at h9_13; have h8_0 := kb_0; unfold bd at h8_0; have h8_1 := kb_1; unfold bd at h8_1; have h8_2 := kb_8; unfold bd at h8_2; have h8_3 := kb_m1; unfold bd at h8_3; omega) hhd_145.1 hb_424 hb_425 hb_426
                                  refine lv_aload_n hx hb dX14_readClass_292 rfl (lv_at hl 1 rfl) ?_
                                  refine lv_bipush (v := 123) hx hb dX14_readClass_293 (by decide) ?_
                                  have go_ := g
                                  refine g_callEv (As := [.int 123]) (rest := []) ⟨hx, hb, hml, hown, hts⟩ (r_X14_sign_2 l dC dI L kd tys f H.size g.2.2.2.1 adK adV a0_ ma0_ ka0_ 123 x_416 h_417 (g.fcts [1] rfl)) (cwV 1 hts (gV_ t_2431 t_2433 t_107 t_198 t_2434) rfl rfl rfl (by decide +kernel) ⟨(Nat.le_of_ble_eq_true rfl), (Nat.le_of_ble_eq_true rfl)⟩) (pre3VA g hK hAm ma0_ ka0_ (by decide) (q := (RX14, TX14, 67)) rfl) rfl hl.1 rfl (lv_room (Nat.le_of_ble_eq_true rfl)) dX14_readClass_295 (cl_f hck_0) g hK (by decide) (by decide) (fx' := [(12, 0, q0_, .int y_438), (12, 59, q0_, .ref a_146), (12, 15, q0_, .ref a_136), (12, 13, q0_, .ref a_128), (12, 5, q0_, .ref a_120), (12, 4, q0_, .ref a_112), (12, 3, q0_, .ref a_104), (12, 2, q0_, .ref a_96), (12, 1, q0_, .ref a_88), (14, 16, a0_, .int x_59), (14, 2, a0_, .ref q0_), (14, 25, a0_, .int op_)]) rfl (fun xr_448 fr_448 H locs mxr_448 kxr_448 hp hMr_448 g => ?_) (fun fr_448 H locs hp hMr_448 g => ?_)
                                  · have hG_449 := mN.frame hMr_448 go_.2.2.2.1 mq0_ kq0_ (by decide) (by decide) hG_442
                                    have hG_450 := isV.frame hMr_448 go_.2.2.2.1 mq0_ kq0_ (by decide) (by decide) hV_445
                                    have hG_451 := FR.frame hMr_448 go_.2.2.2.1 mq0_ kq0_ (by decide) (by decide) hF_446
                                    subst hQ
                                    exact leavesX hempty hlocks (fun t ht hW => g_thrZ g hK mxr_448 kxr_448 ⟨hG_451, (by omega)⟩ ht hW) g.2.2.1.2.2
                                  · obtain ⟨hx_452, h_453, x_454, h_455, hF_456⟩ := hp
                                    have hG_457 := mN.frame hMr_448 go_.2.2.2.1 mq0_ kq0_ (by decide) (by decide) hG_442
                                    have hG_458 := isV.frame hMr_448 go_.2.2.2.1 mq0_ kq0_ (by decide) (by decide) hV_445
                                    have hG_459 := FR.frame hMr_448 go_.2.2.2.1 mq0_ kq0_ (by decide) (by decide) hF_446
                                    obtain ⟨E_460, hE_460⟩ : ∃ E : Int, cEq fr_448 a0_ E := ⟨_, rfl⟩
                                    have mxE_460 : E_460 ≤ 1202 := by have h9 := cF_le g ma0_ ka0_; have h8 : cF _ _ = _ := hE_460; omega
                                    have lE_460 : E_422 + 1 ≤ E_460 := by have h9 := hx_452; have h8 : cF _ _ = _ := hE_460; have h7 : cF _ _ = _ := hG_443; omega
                                    have b_461 : bd 0 1200 x_416 := eqX rfl h_417 h_453 (by decide)
                                    have g := g.more hF_456
                                    have loop_462 : ∀ (n : Nat) (w298_14_10_a0_ : Int32), bd 0 1201 w298_14_10_a0_ → ((n : Int) - 1 < (n : Int)) → ∀ (f : Nat → va_E) (H : Heap) (locs : List Loc) (ls : Array Slot) (cl298 : Nat), G3 (dC, dI) L kd tys s f0 [(12, 0), (12, 27), (12, 46), (12, 57), (12, 58), (14, 6), (14, 7), (14, 8), (14, 9), (14, 10), (14, 11), (14, 12), (14, 13), (14, 14), (14, 15), (14, 16), (14, 17), (14, 20), (14, 21), (14, 22), (14, 23), (14, 24), (14, 25), (14, 26)] [157, 158, 159, 160, 161, 162, 163, 164, 165, 166, 167, 168, 169, 170, 171, 172, 173, 174, 175, 176, 177, 178, 179, 180, 181, 182, 183, 184, 185, 186, 187, 188, 189, 190, 191, 192, 193, 194, 195, 196, 197, 198, 199, 200, 201, 202, 203, 204, 205, 206, 207, 208, 209, 210, 211, 213, 214] f H locs [(14, 10, a0_, .int w298_14_10_a0_), (12, 0, q0_, .int y_438), (12, 59, q0_, .ref a_146), (12, 15, q0_, .ref a_136), (12, 13, q0_, .ref a_128), (12, 5, q0_, .ref a_120), (12, 4, q0_, .ref a_112), (12, 3, q0_, .ref a_104), (12, 2, q0_, .ref a_96), (12, 1, q0_, .ref a_88), (14, 16, a0_, .int x_59), (14, 2, a0_, .ref q0_), (14, 25, a0_, .int op_)] → (∃ (V1 : PV) (D1 : Nat → Nat) (E1 : Int), isV f q0_ V1 ∧ FR L kd f0 f q0_ ∧ cEq f a0_ E1 ∧ KI V1 D1 x_59.toNatClampNeg ∧ mN f q0_ (x_59.toNatClampNeg + 1) ∧ (V1.n 57).toInt - (V_.n 57).toInt ≤ E1 - cF f0 a0_ ∧ 2 * ((V1.n 46).toInt - (V_.n 46).toInt) ≤ E1 - cF f0 a0_ ∧ 2 * (cl298 : Int) ≤ E1 - cF f0 a0_ ∧ cF f0 a0_ + 1 ≤ E1 ∧ E1 ≤ 1202 ∧ cl298 ≤ K_ ∧ 1202 - E1 < (n : Int)) → lv_has ls 2 [(1, .int r_374), (0, .ref a0_)] → W p l e ({ frames := 515, cells := K_, slots := 3 * K_, locals := 29747 } : Room) s m [.ref a0_].toArray below meth c H locs cl298 (3 * cl298) Q (F0 m 298 ls []) := by
                                      intro n298
                                      induction n298 with
                                      | zero =>
                                        intro w298_14_10_a0_ bw298_14_10_a0_ hm298 f H locs ls cl298 g  ⟨V298, D298, E298, hV298, hF298, hC298, hki298, hmm298, hn298, hs298, hk298, hc298, mx298, hck298, hms298⟩ hl
                                        exact absurd hms298 (by omega)
                                      | succ n298 ih298 =>
                                        intro w298_14_10_a0_ bw298_14_10_a0_ hm298 f H locs ls cl298 g  ⟨V298, D298, E298, hV298, hF298, hC298, hki298, hmm298, hn298, hs298, hk298, hc298, mx298, hck298, hms298⟩ hl
                                        refine lv_aload_n hx hb dX14_readClass_298 rfl (lv_at hl 1 rfl) ?_
                                        refine lv_iconst (v := 2) hx hb dX14_readClass_299 (by decide) ?_
                                        have go_ := g
                                        refine g_calli (va_runV (As := [.int 2]) (rest := []) ⟨hx, hb, hml, hown, hts⟩ (r_X14_isWord l dC dI L kd tys f H.size g.2.2.2.1 a0_ ma0_ ka0_ 2) (cwV 1 hts (gV_ t_2399 t_2401 t_99 t_198 t_2402) rfl rfl rfl (by decide +kernel) ⟨(Nat.le_of_ble_eq_true rfl), (Nat.le_of_ble_eq_true rfl)⟩) (pre3V g hK ma0_ ka0_ (by decide) (q := (RX14, TX14, 67)) rfl) rfl rfl hl.1 rfl (lv_room (Nat.le_of_ble_eq_true rfl)) dX14_readClass_300 (cl_f hck298)) g hK (by decide) (by decide) (fx' := [(14, 10, a0_, .int w298_14_10_a0_), (12, 0, q0_, .int y_438), (12, 59, q0_, .ref a_146), (12, 15, q0_, .ref a_136), (12, 13, q0_, .ref a_128), (12, 5, q0_, .ref a_120), (12, 4, q0_, .ref a_112), (12, 3, q0_, .ref a_104), (12, 2, q0_, .ref a_96), (12, 1, q0_, .ref a_88), (14, 16, a0_, .int x_59), (14, 2, a0_, .ref q0_), (14, 25, a0_, .int op_)]) rfl (fun r_463 fr_463 H locs hp hMr_463 g => ?_)
                                        rcases hp with ⟨h_464, -⟩ | ⟨h_465, x_466, h_467, hF_468⟩
                                        · have hG_469 := isV.frame hMr_463 go_.2.2.2.1 mq0_ kq0_ (by decide) (by decide) hV298
                                          have hG_470 := FR.frame hMr_463 go_.2.2.2.1 mq0_ kq0_ (by decide) (by decide) hF298
                                          have hG_471 := cEq.frame hMr_463 go_.2.2.2.1 ma0_ ka0_ (by decide) (by decide) hC298
                                          have hG_472 := mN.frame hMr_463 go_.2.2.2.1 mq0_ kq0_ (by decide) (by decide) hmm298
                                          obtain rfl : r_463 = 0 := h_464
                                          refine lv_if_eq (tgt := 313) hx hb dX14_readClass_303 (by decide) (fun c_ => ?_) (fun c_ => absurd (by decide) c_)
                                          have loop_473 : ∀ (n : Nat) (w313_14_10_a0_ : Int32), bd 0 1201 w313_14_10_a0_ → ((n : Int) - 1 < (n : Int)) → ∀ (f : Nat → va_E) (H : Heap) (locs : List Loc) (ls : Array Slot) (cl313 : Nat), G3 (dC, dI) L kd tys s f0 [(12, 0), (12, 27), (12, 46), (12, 57), (12, 58), (14, 6), (14, 7), (14, 8), (14, 9), (14, 10), (14, 11), (14, 12), (14, 13), (14, 14), (14, 15), (14, 16), (14, 17), (14, 20), (14, 21), (14, 22), (14, 23), (14, 24), (14, 25), (14, 26)] [157, 158, 159, 160, 161, 162, 163, 164, 165, 166, 167, 168, 169, 170, 171, 172, 173, 174, 175, 176, 177, 178, 179, 180, 181, 182, 183, 184, 185, 186, 187, 188, 189, 190, 191, 192, 193, 194, 195, 196, 197, 198, 199, 200, 201, 202, 203, 204, 205, 206, 207, 208, 209, 210, 211, 213, 214] f H locs [(14, 10, a0_, .int w313_14_10_a0_), (12, 0, q0_, .int y_438), (12, 59, q0_, .ref a_146), (12, 15, q0_, .ref a_136), (12, 13, q0_, .ref a_128), (12, 5, q0_, .ref a_120), (12, 4, q0_, .ref a_112), (12, 3, q0_, .ref a_104), (12, 2, q0_, .ref a_96), (12, 1, q0_, .ref a_88), (14, 16, a0_, .int x_59), (14, 2, a0_, .ref q0_), (14, 25, a0_, .int op_)] → (∃ (V1 : PV) (D1 : Nat → Nat) (E1 : Int), isV f q0_ V1 ∧ FR L kd f0 f q0_ ∧ cEq f a0_ E1 ∧ KI V1 D1 x_59.toNatClampNeg ∧ mN f q0_ (x_59.toNatClampNeg + 1) ∧ (V1.n 57).toInt - (V_.n 57).toInt ≤ E1 - cF f0 a0_ ∧ 2 * ((V1.n 46).toInt - (V_.n 46).toInt) ≤ E1 - cF f0 a0_ ∧ 2 * (cl313 : Int) ≤ E1 - cF f0 a0_ ∧ cF f0 a0_ + 1 ≤ E1 ∧ E1 ≤ 1202 ∧ cl313 ≤ K_ ∧ 1202 - E1 < (n : Int)) → lv_has ls 2 [(1, .int r_374), (0, .ref a0_)] → W p l e ({ frames := 515, cells := K_, slots := 3 * K_, locals := 29747 } : Room) s m [.ref a0_].toArray below meth c H locs cl313 (3 * cl313) Q (F0 m 313 ls []) := by
                                            intro n313
                                            induction n313 with
                                            | zero =>
                                              intro w313_14_10_a0_ bw313_14_10_a0_ hm313 f H locs ls cl313 g  ⟨V313, D313, E313, hV313, hF313, hC313, hki313, hmm313, hn313, hs313, hk313, hc313, mx313, hck313, hms313⟩ hl
                                              exact absurd hms313 (by omega)
                                            | succ n313 ih313 =>
                                              intro w313_14_10_a0_ bw313_14_10_a0_ hm313 f H locs ls cl313 g  ⟨V313, D313, E313, hV313, hF313, hC313, hki313, hmm313, hn313, hs313, hk313, hc313, mx313, hck313, hms313⟩ hl
                                              refine lv_aload_n hx hb dX14_readClass_313 rfl (lv_at hl 1 rfl) ?_
                                              refine lv_iconst (v := 3) hx hb dX14_readClass_314 (by decide) ?_
                                              have go_ := g
                                              refine g_calli (va_runV (As := [.int 3]) (rest := []) ⟨hx, hb, hml, hown, hts⟩ (r_X14_isWord l dC dI L kd tys f H.size g.2.2.2.1 a0_ ma0_ ka0_ 3) (cwV 1 hts (gV_ t_2399 t_2401 t_99 t_198 t_2402) rfl rfl rfl (by decide +kernel) ⟨(Nat.le_of_ble_eq_true rfl), (Nat.le_of_ble_eq_true rfl)⟩) (pre3V g hK ma0_ ka0_ (by decide) (q := (RX14, TX14, 67)) rfl) rfl rfl hl.1 rfl (lv_room (Nat.le_of_ble_eq_true rfl)) dX14_readClass_315 (cl_f hck313)) g hK (by decide) (by decide) (fx' := [(14, 10, a0_, .int w313_14_10_a0_), (12, 0, q0_, .int y_438), (12, 59, q0_, .ref a_146), (12, 15, q0_, .ref a_136), (12, 13, q0_, .ref a_128), (12, 5, q0_, .ref a_120), (12, 4, q0_, .ref a_112), (12, 3, q0_, .ref a_104), (12, 2, q0_, .ref a_96), (12, 1, q0_, .ref a_88), (14, 16, a0_, .int x_59), (14, 2, a0_, .ref q0_), (14, 25, a0_, .int op_)]) rfl (fun r_474 fr_474 H locs hp hMr_474 g => ?_)
                                              rcases hp with ⟨h_475, -⟩ | ⟨h_476, x_477, h_478, hF_479⟩
                                              · have hG_480 := isV.frame hMr_474 go_.2.2.2.1 mq0_ kq0_ (by decide) (by decide) hV313
                                                have hG_481 := FR.frame hMr_474 go_.2.2.2.1 mq0_ kq0_ (by decide) (by decide) hF313
                                                have hG_482 := cEq.frame hMr_474 go_.2.2.2.1 ma0_ ka0_ (by decide) (by decide) hC313
                                                have hG_483 := mN.frame hMr_474 go_.2.2.2.1 mq0_ kq0_ (by decide) (by decide) hmm313
                                                obtain rfl : r_474 = 0 := h_475
                                                refine lv_if_eq (tgt := 328) hx hb dX14_readClass_318 (by decide) (fun c_ => ?_) (fun c_ => absurd (by decide) c_)
                                                have loop_484 : ∀ (n : Nat) (w328_14_10_a0_ : Int32), bd 0 1201 w328_14_10_a0_ → ((n : Int) - 1 < (n : Int)) → ∀ (f : Nat → va_E) (H : Heap) (locs : List Loc) (ls : Array Slot) (cl328 : Nat), G3 (dC, dI) L kd tys s f0 [(12, 0), (12, 27), (12, 46), (12, 57), (12, 58), (14, 6), (14, 7), (14, 8), (14, 9), (14, 10), (14, 11), (14, 12), (14, 13), (14, 14), (14, 15), (14, 16), (14, 17), (14, 20), (14, 21), (14, 22), (14, 23), (14, 24), (14, 25), (14, 26)] [157, 158, 159, 160, 161, 162, 163, 164, 165, 166, 167, 168, 169, 170, 171, 172, 173, 174, 175, 176, 177, 178, 179, 180, 181, 182, 183, 184, 185, 186, 187, 188, 189, 190, 191, 192, 193, 194, 195, 196, 197, 198, 199, 200, 201, 202, 203, 204, 205, 206, 207, 208, 209, 210, 211, 213, 214] f H locs [(14, 10, a0_, .int w328_14_10_a0_), (12, 0, q0_, .int y_438), (12, 59, q0_, .ref a_146), (12, 15, q0_, .ref a_136), (12, 13, q0_, .ref a_128), (12, 5, q0_, .ref a_120), (12, 4, q0_, .ref a_112), (12, 3, q0_, .ref a_104), (12, 2, q0_, .ref a_96), (12, 1, q0_, .ref a_88), (14, 16, a0_, .int x_59), (14, 2, a0_, .ref q0_), (14, 25, a0_, .int op_)] → (∃ (V1 : PV) (D1 : Nat → Nat) (E1 : Int), isV f q0_ V1 ∧ FR L kd f0 f q0_ ∧ cEq f a0_ E1 ∧ KI V1 D1 x_59.toNatClampNeg ∧ mN f q0_ (x_59.toNatClampNeg + 1) ∧ (V1.n 57).toInt - (V_.n 57).toInt ≤ E1 - cF f0 a0_ ∧ 2 * ((V1.n 46).toInt - (V_.n 46).toInt) ≤ E1 - cF f0 a0_ ∧ 2 * (cl328 : Int) ≤ E1 - cF f0 a0_ ∧ cF f0 a0_ + 1 ≤ E1 ∧ E1 ≤ 1202 ∧ cl328 ≤ K_ ∧ 1202 - E1 < (n : Int)) → lv_has ls 2 [(1, .int r_374), (0, .ref a0_)] → W p l e ({ frames := 515, cells := K_, slots := 3 * K_, locals := 29747 } : Room) s m [.ref a0_].toArray below meth c H locs cl328 (3 * cl328) Q (F0 m 328 ls []) := by
                                                  intro n328
                                                  induction n328 with
                                                  | zero =>
                                                    intro w328_14_10_a0_ bw328_14_10_a0_ hm328 f H locs ls cl328 g  ⟨V328, D328, E328, hV328, hF328, hC328, hki328, hmm328, hn328, hs328, hk328, hc328, mx328, hck328, hms328⟩ hl
                                                    exact absurd hms328 (by omega)
                                                  | succ n328 ih328 =>
                                                    intro w328_14_10_a0_ bw328_14_10_a0_ hm328 f H locs ls cl328 g  ⟨V328, D328, E328, hV328, hF328, hC328, hki328, hmm328, hn328, hs328, hk328, hc328, mx328, hck328, hms328⟩ hl
                                                    refine lv_aload_n hx hb dX14_readClass_328 rfl (lv_at hl 1 rfl) ?_
                                                    refine lv_iconst (v := 4) hx hb dX14_readClass_329 (by decide) ?_
                                                    have go_ := g
                                                    refine g_calli (va_runV (As := [.int 4]) (rest := []) ⟨hx, hb, hml, hown, hts⟩ (r_X14_isWord l dC dI L kd tys f H.size g.2.2.2.1 a0_ ma0_ ka0_ 4) (cwV 1 hts (gV_ t_2399 t_2401 t_99 t_198 t_2402) rfl rfl rfl (by decide +kernel) ⟨(Nat.le_of_ble_eq_true rfl), (Nat.le_of_ble_eq_true rfl)⟩) (pre3V g hK ma0_ ka0_ (by decide) (q := (RX14, TX14, 67)) rfl) rfl rfl hl.1 rfl (lv_room (Nat.le_of_ble_eq_true rfl)) dX14_readClass_330 (cl_f hck328)) g hK (by decide) (by decide) (fx' := [(14, 10, a0_, .int w328_14_10_a0_), (12, 0, q0_, .int y_438), (12, 59, q0_, .ref a_146), (12, 15, q0_, .ref a_136), (12, 13, q0_, .ref a_128), (12, 5, q0_, .ref a_120), (12, 4, q0_, .ref a_112), (12, 3, q0_, .ref a_104), (12, 2, q0_, .ref a_96), (12, 1, q0_, .ref a_88), (14, 16, a0_, .int x_59), (14, 2, a0_, .ref q0_), (14, 25, a0_, .int op_)]) rfl (fun r_485 fr_485 H locs hp hMr_485 g => ?_)
                                                    rcases hp with ⟨h_486, -⟩ | ⟨h_487, x_488, h_489, hF_490⟩
                                                    · have hG_491 := isV.frame hMr_485 go_.2.2.2.1 mq0_ kq0_ (by decide) (by decide) hV328
                                                      have hG_492 := FR.frame hMr_485 go_.2.2.2.1 mq0_ kq0_ (by decide) (by decide) hF328
                                                      have hG_493 := cEq.frame hMr_485 go_.2.2.2.1 ma0_ ka0_ (by decide) (by decide) hC328
                                                      have hG_494 := mN.frame hMr_485 go_.2.2.2.1 mq0_ kq0_ (by decide) (by decide) hmm328
                                                      obtain rfl : r_485 = 0 := h_486
                                                      refine lv_if_eq (tgt := 343) hx hb dX14_readClass_333 (by decide) (fun c_ => ?_) (fun c_ => absurd (by decide) c_)
                                                      refine lv_aload_n hx hb dX14_readClass_343 rfl (lv_at hl 1 rfl) ?_
                                                      refine lv_bipush (v := 125) hx hb dX14_readClass_344 (by decide) ?_
                                                      have go_ := g
                                                      refine g_callEv (As := [.int 125]) (rest := []) ⟨hx, hb, hml, hown, hts⟩ (r_X14_sign_2 l dC dI L kd tys fr_485 H.size g.2.2.2.1 adK adV a0_ ma0_ ka0_ 125 w328_14_10_a0_ bw328_14_10_a0_ (g.fcts [0] rfl)) (cwV 1 hts (gV_ t_2431 t_2433 t_107 t_198 t_2434) rfl rfl rfl (by decide +kernel) ⟨(Nat.le_of_ble_eq_true rfl), (Nat.le_of_ble_eq_true rfl)⟩) (pre3VA g hK hAm ma0_ ka0_ (by decide) (q := (RX14, TX14, 67)) rfl) rfl hl.1 rfl (lv_room (Nat.le_of_ble_eq_true rfl)) dX14_readClass_346 (cl_f hck328) g hK (by decide) (by decide) (fx' := [(12, 0, q0_, .int y_438), (12, 59, q0_, .ref a_146), (12, 15, q0_, .ref a_136), (12, 13, q0_, .ref a_128), (12, 5, q0_, .ref a_120), (12, 4, q0_, .ref a_112), (12, 3, q0_, .ref a_104), (12, 2, q0_, .ref a_96), (12, 1, q0_, .ref a_88), (14, 16, a0_, .int x_59), (14, 2, a0_, .ref q0_), (14, 25, a0_, .int op_)]) rfl (fun xr_495 fr_495 H locs mxr_495 kxr_495 hp hMr_495 g => ?_) (fun fr_495 H locs hp hMr_495 g => ?_)
                                                      · have hG_496 := isV.frame hMr_495 go_.2.2.2.1 mq0_ kq0_ (by decide) (by decide) hG_491
                                                        have hG_497 := FR.frame hMr_495 go_.2.2.2.1 mq0_ kq0_ (by decide) (by decide) hG_492
                                                        have hG_498 := mN.frame hMr_495 go_.2.2.2.1 mq0_ kq0_ (by decide) (by decide) hG_494
                                                        subst hQ
                                                        exact leavesX hempty hlocks (fun t ht hW => g_thrZ g hK mxr_495 kxr_495 ⟨hG_497, (by omega)⟩ ht hW) g.2.2.1.2.2
                                                      · obtain ⟨hx_499, h_500, x_501, h_502, hF_503⟩ := hp
                                                        have hG_504 := isV.frame hMr_495 go_.2.2.2.1 mq0_ kq0_ (by decide) (by decide) hG_491
                                                        have hG_505 := FR.frame hMr_495 go_.2.2.2.1 mq0_ kq0_ (by decide) (by decide) hG_492
                                                        have hG_506 := mN.frame hMr_495 go_.2.2.2.1 mq0_ kq0_ (by decide) (by decide) hG_494
                                                        obtain ⟨E_507, hE_507⟩ : ∃ E : Int, cEq fr_495 a0_ E := ⟨_, rfl⟩
                                                        have mxE_507 : E_507 ≤ 1202 := by have h9 := cF_le g ma0_ ka0_; have h8 : cF _ _ = _ := hE_507; omega
                                                        have lE_507 : E328 + 1 ≤ E_507 := by have h9 := hx_499; have h8 : cF _ _ = _ := hE_507; have h7 : cF _ _ = _ := hG_493; omega
                                                        have b_508 : bd 0 1200 w328_14_10_a0_ := eqX rfl bw328_14_10_a0_ h_500 (by decide)
                                                        have g := g.more hF_503
                                                        have h9c : cF fr_495 a0_ = _ := hE_507
                                                        subst hQ
                                                        exact vretX hx hb hr (fun t ht hW => g_retZ g hK ⟨rfl, ⟨⟨V328, _, hG_504, hG_505, (KI.close hki328 ((fun c hc => (isV.rng hG_504 g mq0_ kq0_ (j := 15) (K := 171) (by decide) rfl (by decide) rfl hc).2) _ (by have h9 := ho7.1; omega))).cn, (by rw [show (V328.n 0).toNatClampNeg = x_59.toNatClampNeg + 1 by have h9 := hki328.2.2.2; have h8 := tnZ (i := V328.n 0) (by omega); omega]; exact hG_506), (by omega), (by omega), (by omega), (by omega)⟩, x_501, h_502, (g.fcts [12, 0] rfl)⟩⟩ ht hW) g.2.2.1.2.2 dX14_readClass_349 hlocks
                                                    · have hG_509 := isV.frame hMr_485 go_.2.2.2.1 mq0_ kq0_ (by decide) (by decide) hV328
                                                      have hG_510 := FR.frame hMr_485 go_.2.2.2.1 mq0_ kq0_ (by decide) (by decide) hF328
                                                      have hG_511 := cEq.frame hMr_485 go_.2.2.2.1 ma0_ ka0_ (by decide) (by decide) hC328
                                                      have hG_512 := mN.frame hMr_485 go_.2.2.2.1 mq0_ kq0_ (by decide) (by decide) hmm328
                                                      obtain rfl : r_485 = 1 := h_487
                                                      have g := g.more hF_490
                                                      refine lv_if_eq (tgt := 343) hx hb dX14_readClass_333 (by decide) (fun c_ => absurd c_ (by decide)) (fun c_ => ?_)
                                                      refine lv_aload_n hx hb dX14_readClass_336 rfl (lv_at hl 1 rfl) ?_
                                                      have qc__513 : cF fr_485 a0_ = _ := hG_511
                                                      have qc__514 : cF fr_485 a0_ = _ := hG_511
                                                      have hs_515 := sE_1 g 0 rfl (by have h9_0 := bop_; unfold bd at h9_0; have h9_1 := h_377; unfold bd at h9_1; have h9_2 := b_14; unfold bd at h9_2; have h9_3 := bw298_14_10_a0_; unfold bd at h9_3; have h9_4 := bw313_14_10_a0_; unfold bd at h9_4; have h9_5 := bw328_14_10_a0_; unfold bd at h9_5; have h9_6 := b_23; unfold bd at h9_6; have h9_7 := b_350; unfold bd at h9_7; have h9_8 := b_423; unfold bd at h9_8; have h9_9 := bx_24; unfold bd at h9_9; have h9_10 := b_359; unfold bd at h9_10; have h9_11 := bx_360; unfold bd at h9_11; have h9_12 := h_379; unfold bd at h9_12; have h9_13 := b_461; unfold bd at h9_13; have h9_14 := h_455; unfold bd at h9_14; have h9_15 := h_489; unfold bd at h9_15; have h9_16 := b_396; unfold bd at h9_16; have h9_17 := b_169; unfold bd at h9_17; have h9_18 := b_439; unfold bd at h9_18; have h8_0 := kb_0; unfold bd at h8_0; have h8_1 := kb_1; unfold bd at h8_1; have h8_2 := kb_8; unfold bd at h8_2; have h8_3 := kb_m1; unfold bd at h8_3; omega)
                                                      have go_ := g
                                                      refine g_callZv (As := []) (rest := []) ⟨hx, hb, hml, hown, hts⟩ (r_X14_readMember l dC dI L kd tys fr_485 H.size g.2.2.2.1 adK adV a0_ ma0_ ka0_ q0_ mq0_ kq0_ V328 D328 x_59 (bd_sub b_396 (by decide)) op_ bop_ w328_14_10_a0_ bw328_14_10_a0_ hG_509 hki328 (by omega) (by omega) (isV.nrg hG_509 g mq0_ kq0_ (j := 46) (by decide) rfl).1 (K_ - cl328) (by omega) (g.fcts [12, 11, 13, 1] rfl)) (cwV 0 hts (gV_ t_2524 t_2526 t_127 t_198 t_2527) rfl rfl rfl (by decide +kernel) ⟨(Nat.le_of_ble_eq_true rfl), (Nat.le_of_ble_eq_true rfl)⟩) (pre3VA g hK hAm ma0_ ka0_ (by decide) (q := (RX14, TX14, 67)) rfl) rfl hl.1 rfl (lv_room (Nat.le_of_ble_eq_true rfl)) dX14_readClass_337 (cl_k (K := K_) (k := K_ - cl328) (show cl328 + (K_ - cl328) ≤ K_ by omega)) g hK (by decide) (by decide) (fx' := [(12, 0, q0_, .int y_438), (12, 59, q0_, .ref a_146), (12, 15, q0_, .ref a_136), (12, 13, q0_, .ref a_128), (12, 5, q0_, .ref a_120), (12, 4, q0_, .ref a_112), (12, 3, q0_, .ref a_104), (12, 2, q0_, .ref a_96), (12, 1, q0_, .ref a_88), (14, 16, a0_, .int x_59), (14, 2, a0_, .ref q0_)]) rfl (fun xr_516 fr_516 H locs kr_516 cr_516 ecr_516 mxr_516 kxr_516 hp hMr_516 g => ?_) (fun fr_516 H locs kr_516 cr_516 ecr_516 hp hMr_516 g => ?_)
                                                      · have hG_517 := mN.frame hMr_516 go_.2.2.2.1 mq0_ kq0_ (by decide) (by decide) hG_512
                                                        have hF_518 := FR.call (mds := []) (mas := []) hG_510 go_ mq0_ kq0_ rfl hp.1
                                                        have hpk := hp.2
                                                        subst hQ
                                                        exact leavesX hempty hlocks (fun t ht hW => g_thrZ g hK mxr_516 kxr_516 ⟨hF_518, (by omega)⟩ ht hW) g.2.2.1.2.2
                                                      · obtain ⟨hx_519, x_520, h_521, hF_522⟩ := hp
                                                        have hG_523 := mN.frame hMr_516 go_.2.2.2.1 mq0_ kq0_ (by decide) (by decide) hG_512
                                                        obtain ⟨V_524, D_525, E_526, hV_527, hF_528, hE_529, hki_530, hP_531, hn_532, hs_533, hk_534, hc_535⟩ := rdk_use hx_519 hG_511
                                                        have hF_536 := FR.call (mds := []) (mas := []) hG_510 go_ mq0_ kq0_ rfl hF_528
                                                        have mxE_526 : E_526 ≤ 1202 := by have h9 := cF_le g ma0_ ka0_; have h8 : cF _ _ = _ := hE_529; omega
                                                        have hck_537 : cr_516 ≤ K_ := by omega
                                                        have g := g.more hF_522
                                                        refine lv_goto (tgt := 328) hx hb dX14_readClass_340 (by decide) ?_
                                                        have hl9 := lv_sub hl [0, 1] (by rfl : lv_pick [(1, .int r_374), (0, .ref a0_)] [0, 1] = [(1, .int r_374), (0, .ref a0_)])
                                                        have g9 := g.sub (fx' := [(14, 10, a0_, .int x_520), (12, 0, q0_, .int y_438), (12, 59, q0_, .ref a_146), (12, 15, q0_, .ref a_136), (12, 13, q0_, .ref a_128), (12, 5, q0_, .ref a_120), (12, 4, q0_, .ref a_112), (12, 3, q0_, .ref a_104), (12, 2, q0_, .ref a_96), (12, 1, q0_, .ref a_88), (14, 16, a0_, .int x_59), (14, 2, a0_, .ref q0_), (14, 25, a0_, .int op_)]) [1, 2, 3, 4, 5, 6, 7, 8, 9, 10, 11, 12, 0] rfl
                                                        exact ih328  x_520 h_521 (by have h9_0 := bw328_14_10_a0_; unfold bd at h9_0; have h9_1 := h_521; unfold bd at h9_1; have h9_2 := kb_0; unfold bd at h9_2; have h9_3 := kb_1; unfold bd at h9_3; have h9_4 := kb_8; unfold bd at h9_4; have h9_5 := kb_m1; unfold bd at h9_5; omega) _ _ _ _ _ g9 ⟨_, _, _, hV_527, hF_536, hE_529, hki_530, hG_523, (by omega), (by omega), (by omega), (by omega), (by omega), hck_537, (by omega)⟩ hl9
                                                have hl9 := lv_sub hl [0, 1] (by rfl : lv_pick [(1, .int r_374), (0, .ref a0_)] [0, 1] = [(1, .int r_374), (0, .ref a0_)])
                                                have g9 := g.sub (fx' := [(14, 10, a0_, .int w313_14_10_a0_), (12, 0, q0_, .int y_438), (12, 59, q0_, .ref a_146), (12, 15, q0_, .ref a_136), (12, 13, q0_, .ref a_128), (12, 5, q0_, .ref a_120), (12, 4, q0_, .ref a_112), (12, 3, q0_, .ref a_104), (12, 2, q0_, .ref a_96), (12, 1, q0_, .ref a_88), (14, 16, a0_, .int x_59), (14, 2, a0_, .ref q0_), (14, 25, a0_, .int op_)]) [0, 1, 2, 3, 4, 5, 6, 7, 8, 9, 10, 11, 12] rfl
                                                exact loop_484 (1300) w313_14_10_a0_ bw313_14_10_a0_ (by have h9_0 := bw313_14_10_a0_; unfold bd at h9_0; have h9_1 := kb_0; unfold bd at h9_1; have h9_2 := kb_1; unfold bd at h9_2; have h9_3 := kb_8; unfold bd at h9_3; have h9_4 := kb_m1; unfold bd at h9_4; omega) _ _ _ _ _ g9 ⟨_, _, _, hG_480, hG_481, hG_482, hki313, hG_483, (by omega), (by omega), (by omega), (by omega), (by omega), hck313, (by omega)⟩ hl9
                                              · have hG_538 := isV.frame hMr_474 go_.2.2.2.1 mq0_ kq0_ (by decide) (by decide) hV313
                                                have hG_539 := FR.frame hMr_474 go_.2.2.2.1 mq0_ kq0_ (by decide) (by decide) hF313
                                                have hG_540 := cEq.frame hMr_474 go_.2.2.2.1 ma0_ ka0_ (by decide) (by decide) hC313
                                                have hG_541 := mN.frame hMr_474 go_.2.2.2.1 mq0_ kq0_ (by decide) (by decide) hmm313
                                                obtain rfl : r_474 = 1 := h_476
                                                have g := g.more hF_479
                                                refine lv_if_eq (tgt := 328) hx hb dX14_readClass_318 (by decide) (fun c_ => absurd c_ (by decide)) (fun c_ => ?_)
                                                refine lv_aload_n hx hb dX14_readClass_321 rfl (lv_at hl 1 rfl) ?_
                                                have qc__542 : cF fr_474 a0_ = _ := hG_540
                                                have qc__543 : cF fr_474 a0_ = _ := hG_540
                                                have hs_544 := sE_1 g 0 rfl (by have h9_0 := bop_; unfold bd at h9_0; have h9_1 := h_377; unfold bd at h9_1; have h9_2 := b_14; unfold bd at h9_2; have h9_3 := bw298_14_10_a0_; unfold bd at h9_3; have h9_4 := bw313_14_10_a0_; unfold bd at h9_4; have h9_5 := b_23; unfold bd at h9_5; have h9_6 := b_350; unfold bd at h9_6; have h9_7 := b_423; unfold bd at h9_7; have h9_8 := bx_24; unfold bd at h9_8; have h9_9 := b_359; unfold bd at h9_9; have h9_10 := bx_360; unfold bd at h9_10; have h9_11 := h_379; unfold bd at h9_11; have h9_12 := b_461; unfold bd at h9_12; have h9_13 := h_455; unfold bd at h9_13; have h9_14 := h_478; unfold bd at h9_14; have h9_15 := b_396; unfold bd at h9_15; have h9_16 := b_169; unfold bd at h9_16; have h9_17 := b_439; unfold bd at h9_17; have h8_0 := kb_0; unfold bd at h8_0; have h8_1 := kb_1; unfold bd at h8_1; have h8_2 := kb_8; unfold bd at h8_2; have h8_3 := kb_m1; unfold bd at h8_3; omega)
                                                have go_ := g
                                                refine g_callZv (As := []) (rest := []) ⟨hx, hb, hml, hown, hts⟩ (r_X14_readKept l dC dI L kd tys fr_474 H.size g.2.2.2.1 adK adV a0_ ma0_ ka0_ q0_ mq0_ kq0_ V313 D313 x_59 (bd_sub b_396 (by decide)) op_ bop_ w313_14_10_a0_ bw313_14_10_a0_ hG_538 hki313 (by omega) (by omega) (isV.nrg hG_538 g mq0_ kq0_ (j := 46) (by decide) rfl).1 (K_ - cl313) (by omega) (g.fcts [12, 11, 13, 1] rfl)) (cwV 0 hts (gV_ t_2456 t_2458 t_111 t_198 t_2459) rfl rfl rfl (by decide +kernel) ⟨(Nat.le_of_ble_eq_true rfl), (Nat.le_of_ble_eq_true rfl)⟩) (pre3VA g hK hAm ma0_ ka0_ (by decide) (q := (RX14, TX14, 67)) rfl) rfl hl.1 rfl (lv_room (Nat.le_of_ble_eq_true rfl)) dX14_readClass_322 (cl_k (K := K_) (k := K_ - cl313) (show cl313 + (K_ - cl313) ≤ K_ by omega)) g hK (by decide) (by decide) (fx' := [(12, 0, q0_, .int y_438), (12, 59, q0_, .ref a_146), (12, 15, q0_, .ref a_136), (12, 13, q0_, .ref a_128), (12, 5, q0_, .ref a_120), (12, 4, q0_, .ref a_112), (12, 3, q0_, .ref a_104), (12, 2, q0_, .ref a_96), (12, 1, q0_, .ref a_88), (14, 16, a0_, .int x_59), (14, 2, a0_, .ref q0_)]) rfl (fun xr_545 fr_545 H locs kr_545 cr_545 ecr_545 mxr_545 kxr_545 hp hMr_545 g => ?_) (fun fr_545 H locs kr_545 cr_545 ecr_545 hp hMr_545 g => ?_)
                                                · have hG_546 := mN.frame hMr_545 go_.2.2.2.1 mq0_ kq0_ (by decide) (by decide) hG_541
                                                  have hF_547 := FR.call (mds := []) (mas := []) hG_539 go_ mq0_ kq0_ rfl hp.1
                                                  have hpk := hp.2
                                                  subst hQ
                                                  exact leavesX hempty hlocks (fun t ht hW => g_thrZ g hK mxr_545 kxr_545 ⟨hF_547, (by omega)⟩ ht hW) g.2.2.1.2.2
                                                · obtain ⟨hx_548, x_549, h_550, hF_551⟩ := hp
                                                  have hG_552 := mN.frame hMr_545 go_.2.2.2.1 mq0_ kq0_ (by decide) (by decide) hG_541
                                                  obtain ⟨V_553, D_554, E_555, hV_556, hF_557, hE_558, hki_559, hP_560, hn_561, hs_562, hk_563, hc_564⟩ := rdk_use hx_548 hG_540
                                                  have hF_565 := FR.call (mds := []) (mas := []) hG_539 go_ mq0_ kq0_ rfl hF_557
                                                  have mxE_555 : E_555 ≤ 1202 := by have h9 := cF_le g ma0_ ka0_; have h8 : cF _ _ = _ := hE_558; omega
                                                  have hck_566 : cr_545 ≤ K_ := by omega
                                                  have g := g.more hF_551
                                                  refine lv_goto (tgt := 313) hx hb dX14_readClass_325 (by decide) ?_
                                                  have hl9 := lv_sub hl [0, 1] (by rfl : lv_pick [(1, .int r_374), (0, .ref a0_)] [0, 1] = [(1, .int r_374), (0, .ref a0_)])
                                                  have g9 := g.sub (fx' := [(14, 10, a0_, .int x_549), (12, 0, q0_, .int y_438), (12, 59, q0_, .ref a_146), (12, 15, q0_, .ref a_136), (12, 13, q0_, .ref a_128), (12, 5, q0_, .ref a_120), (12, 4, q0_, .ref a_112), (12, 3, q0_, .ref a_104), (12, 2, q0_, .ref a_96), (12, 1, q0_, .ref a_88), (14, 16, a0_, .int x_59), (14, 2, a0_, .ref q0_), (14, 25, a0_, .int op_)]) [1, 2, 3, 4, 5, 6, 7, 8, 9, 10, 11, 12, 0] rfl
                                                  exact ih313  x_549 h_550 (by have h9_0 := bw313_14_10_a0_; unfold bd at h9_0; have h9_1 := h_550; unfold bd at h9_1; have h9_2 := kb_0; unfold bd at h9_2; have h9_3 := kb_1; unfold bd at h9_3; have h9_4 := kb_8; unfold bd at h9_4; have h9_5 := kb_m1; unfold bd at h9_5; omega) _ _ _ _ _ g9 ⟨_, _, _, hV_556, hF_565, hE_558, hki_559, hG_552, (by omega), (by omega), (by omega), (by omega), (by omega), hck_566, (by omega)⟩ hl9
                                          have hl9 := lv_sub hl [0, 1] (by rfl : lv_pick [(1, .int r_374), (0, .ref a0_)] [0, 1] = [(1, .int r_374), (0, .ref a0_)])
                                          have g9 := g.sub (fx' := [(14, 10, a0_, .int w298_14_10_a0_), (12, 0, q0_, .int y_438), (12, 59, q0_, .ref a_146), (12, 15, q0_, .ref a_136), (12, 13, q0_, .ref a_128), (12, 5, q0_, .ref a_120), (12, 4, q0_, .ref a_112), (12, 3, q0_, .ref a_104), (12, 2, q0_, .ref a_96), (12, 1, q0_, .ref a_88), (14, 16, a0_, .int x_59), (14, 2, a0_, .ref q0_), (14, 25, a0_, .int op_)]) [0, 1, 2, 3, 4, 5, 6, 7, 8, 9, 10, 11, 12] rfl
                                          exact loop_473 (1300) w298_14_10_a0_ bw298_14_10_a0_ (by have h9_0 := bw298_14_10_a0_; unfold bd at h9_0; have h9_1 := kb_0; unfold bd at h9_1; have h9_2 := kb_1; unfold bd at h9_2; have h9_3 := kb_8; unfold bd at h9_3; have h9_4 := kb_m1; unfold bd at h9_4; omega) _ _ _ _ _ g9 ⟨_, _, _, hG_469, hG_470, hG_471, hki298, hG_472, (by omega), (by omega), (by omega), (by omega), (by omega), hck298, (by omega)⟩ hl9
                                        · have hG_567 := isV.frame hMr_463 go_.2.2.2.1 mq0_ kq0_ (by decide) (by decide) hV298
                                          have hG_568 := FR.frame hMr_463 go_.2.2.2.1 mq0_ kq0_ (by decide) (by decide) hF298
                                          have hG_569 := cEq.frame hMr_463 go_.2.2.2.1 ma0_ ka0_ (by decide) (by decide) hC298
                                          have hG_570 := mN.frame hMr_463 go_.2.2.2.1 mq0_ kq0_ (by decide) (by decide) hmm298
                                          obtain rfl : r_463 = 1 := h_465
                                          have g := g.more hF_468
                                          refine lv_if_eq (tgt := 313) hx hb dX14_readClass_303 (by decide) (fun c_ => absurd c_ (by decide)) (fun c_ => ?_)
                                          refine lv_aload_n hx hb dX14_readClass_306 rfl (lv_at hl 1 rfl) ?_
                                          have qc__571 : cF fr_463 a0_ = _ := hG_569
                                          have qc__572 : cF fr_463 a0_ = _ := hG_569
                                          have hs_573 := sE_1 g 0 rfl (by have h9_0 := bop_; unfold bd at h9_0; have h9_1 := h_377; unfold bd at h9_1; have h9_2 := b_14; unfold bd at h9_2; have h9_3 := bw298_14_10_a0_; unfold bd at h9_3; have h9_4 := b_23; unfold bd at h9_4; have h9_5 := b_350; unfold bd at h9_5; have h9_6 := b_423; unfold bd at h9_6; have h9_7 := bx_24; unfold bd at h9_7; have h9_8 := b_359; unfold bd at h9_8; have h9_9 := bx_360; unfold bd at h9_9; have h9_10 := h_379; unfold bd at h9_10; have h9_11 := b_461; unfold bd at h9_11; have h9_12 := h_455; unfold bd at h9_12; have h9_13 := h_467; unfold bd at h9_13; have h9_14 := b_396; unfold bd at h9_14; have h9_15 := b_169; unfold bd at h9_15; have h9_16 := b_439; unfold bd at h9_16; have h8_0 := kb_0; unfold bd at h8_0; have h8_1 := kb_1; unfold bd at h8_1; have h8_2 := kb_8; unfold bd at h8_2; have h8_3 := kb_m1; unfold bd at h8_3; omega)
                                          have go_ := g
                                          refine g_callZv (As := []) (rest := []) ⟨hx, hb, hml, hown, hts⟩ (r_X14_readField l dC dI L kd tys fr_463 H.size g.2.2.2.1 adK adV a0_ ma0_ ka0_ q0_ mq0_ kq0_ V298 D298 x_59 (bd_sub b_396 (by decide)) op_ bop_ w298_14_10_a0_ bw298_14_10_a0_ hG_567 hki298 (by omega) (by omega) (isV.nrg hG_567 g mq0_ kq0_ (j := 46) (by decide) rfl).1 (K_ - cl298) (by omega) (g.fcts [12, 11, 13, 1] rfl)) (cwV 0 hts (gV_ t_2439 t_2441 t_109 t_198 t_2442) rfl rfl rfl (by decide +kernel) ⟨(Nat.le_of_ble_eq_true rfl), (Nat.le_of_ble_eq_true rfl)⟩) (pre3VA g hK hAm ma0_ ka0_ (by decide) (q := (RX14, TX14, 67)) rfl) rfl hl.1 rfl (lv_room (Nat.le_of_ble_eq_true rfl)) dX14_readClass_307 (cl_k (K := K_) (k := K_ - cl298) (show cl298 + (K_ - cl298) ≤ K_ by omega)) g hK (by decide) (by decide) (fx' := [(12, 0, q0_, .int y_438), (12, 59, q0_, .ref a_146), (12, 15, q0_, .ref a_136), (12, 13, q0_, .ref a_128), (12, 5, q0_, .ref a_120), (12, 4, q0_, .ref a_112), (12, 3, q0_, .ref a_104), (12, 2, q0_, .ref a_96), (12, 1, q0_, .ref a_88), (14, 16, a0_, .int x_59), (14, 2, a0_, .ref q0_)]) rfl (fun xr_574 fr_574 H locs kr_574 cr_574 ecr_574 mxr_574 kxr_574 hp hMr_574 g => ?_) (fun fr_574 H locs kr_574 cr_574 ecr_574 hp hMr_574 g => ?_)
                                          · have hG_575 := mN.frame hMr_574 go_.2.2.2.1 mq0_ kq0_ (by decide) (by decide) hG_570
                                            have hF_576 := FR.call (mds := []) (mas := []) hG_568 go_ mq0_ kq0_ rfl hp.1
                                            have hpk := hp.2
                                            subst hQ
                                            exact leavesX hempty hlocks (fun t ht hW => g_thrZ g hK mxr_574 kxr_574 ⟨hF_576, (by omega)⟩ ht hW) g.2.2.1.2.2
                                          · obtain ⟨hx_577, x_578, h_579, hF_580⟩ := hp
                                            have hG_581 := mN.frame hMr_574 go_.2.2.2.1 mq0_ kq0_ (by decide) (by decide) hG_570
                                            obtain ⟨V_582, D_583, E_584, hV_585, hF_586, hE_587, hki_588, hP_589, hn_590, hs_591, hk_592, hc_593⟩ := rdk_use hx_577 hG_569
                                            have hF_594 := FR.call (mds := []) (mas := []) hG_568 go_ mq0_ kq0_ rfl hF_586
                                            have mxE_584 : E_584 ≤ 1202 := by have h9 := cF_le g ma0_ ka0_; have h8 : cF _ _ = _ := hE_587; omega
                                            have hck_595 : cr_574 ≤ K_ := by omega
                                            have g := g.more hF_580
                                            refine lv_goto (tgt := 298) hx hb dX14_readClass_310 (by decide) ?_
                                            have hl9 := lv_sub hl [0, 1] (by rfl : lv_pick [(1, .int r_374), (0, .ref a0_)] [0, 1] = [(1, .int r_374), (0, .ref a0_)])
                                            have g9 := g.sub (fx' := [(14, 10, a0_, .int x_578), (12, 0, q0_, .int y_438), (12, 59, q0_, .ref a_146), (12, 15, q0_, .ref a_136), (12, 13, q0_, .ref a_128), (12, 5, q0_, .ref a_120), (12, 4, q0_, .ref a_112), (12, 3, q0_, .ref a_104), (12, 2, q0_, .ref a_96), (12, 1, q0_, .ref a_88), (14, 16, a0_, .int x_59), (14, 2, a0_, .ref q0_), (14, 25, a0_, .int op_)]) [1, 2, 3, 4, 5, 6, 7, 8, 9, 10, 11, 12, 0] rfl
                                            exact ih298  x_578 h_579 (by have h9_0 := bw298_14_10_a0_; unfold bd at h9_0; have h9_1 := h_579; unfold bd at h9_1; have h9_2 := kb_0; unfold bd at h9_2; have h9_3 := kb_1; unfold bd at h9_3; have h9_4 := kb_8; unfold bd at h9_4; have h9_5 := kb_m1; unfold bd at h9_5; omega) _ _ _ _ _ g9 ⟨_, _, _, hV_585, hF_594, hE_587, hki_588, hG_581, (by omega), (by omega), (by omega), (by omega), (by omega), hck_595, (by omega)⟩ hl9
                                    have hl9 := lv_sub hl [0, 1] (by rfl : lv_pick [(1, .int r_374), (0, .ref a0_)] [0, 1] = [(1, .int r_374), (0, .ref a0_)])
                                    have g9 := g.sub (fx' := [(14, 10, a0_, .int x_454), (12, 0, q0_, .int y_438), (12, 59, q0_, .ref a_146), (12, 15, q0_, .ref a_136), (12, 13, q0_, .ref a_128), (12, 5, q0_, .ref a_120), (12, 4, q0_, .ref a_112), (12, 3, q0_, .ref a_104), (12, 2, q0_, .ref a_96), (12, 1, q0_, .ref a_88), (14, 16, a0_, .int x_59), (14, 2, a0_, .ref q0_), (14, 25, a0_, .int op_)]) [0, 1, 2, 3, 4, 5, 6, 7, 8, 9, 10, 11, 12] rfl
                                    have qn__596 : ((V_434.un 0 y_438).n 57).toInt = (V_434.n 57).toInt ∧ ((V_434.un 0 y_438).n 46).toInt = (V_434.n 46).toInt := ⟨rfl, rfl⟩
                                    exact loop_462 (1300) x_454 h_455 (by have h9_0 := h_455; unfold bd at h9_0; have h9_1 := kb_0; unfold bd at h9_1; have h9_2 := kb_1; unfold bd at h9_2; have h9_3 := kb_8; unfold bd at h9_3; have h9_4 := kb_m1; unfold bd at h9_4; omega) _ _ _ _ _ g9 ⟨_, _, _, hG_458, hG_459, hE_460, hki_447, hG_457, (by omega), (by omega), (by omega), (by omega), (by omega), hck_0, (by omega)⟩ hl9
        · have hG_597 := isV.frame hMr_38 go_.2.2.2.1 mq0_ kq0_ (by decide) (by decide) hG_31
          have hG_598 := mN.frame hMr_38 go_.2.2.2.1 mq0_ kq0_ (by decide) (by decide) hG_32
          have hG_599 := FR.frame hMr_38 go_.2.2.2.1 mq0_ kq0_ (by decide) (by decide) hG_33
          have hG_600 := cEq.frame hMr_38 go_.2.2.2.1 ma0_ ka0_ (by decide) (by decide) hG_34
          have g := g.more hF_44
          refine lv_iconst (v := (-1)) hx hb dX14_readClass_40 (by decide) ?_
          have kb_m1 : bd (-1) (-1) ((-1) : Int32) := ⟨by decide, by decide⟩
          refine lv_icmp_ne (tgt := 48) hx hb dX14_readClass_41 (by decide) (fun c_601 => ?_) (fun c_601 => ?_)
          · have fc_601 := neq_f c_601
            refine lv_iconst (v := 0) hx hb dX14_readClass_48 (by decide) ?_
            refine lv_iconst (v := 2) hx hb dX14_readClass_49 (by decide) ?_
            refine lv_aload_n hx hb dX14_readClass_50 rfl (lv_at hl 0 rfl) ?_
            refine g_getk (C := RX14) (T := TX14) (N := 67) hx hb hts (mc_ inX14) hown hK g rfl 8 (by decide) rfl (hts _ (List.mem_cons_of_mem _ t_2154)) (fun _ h9 => h9) 3 rfl dX14_readClass_51 ?_
            have hs_602 := sE_1 g 4 rfl (by have h9_0 := bop_; unfold bd at h9_0; have h9_1 := h_41; unfold bd at h9_1; have h9_2 := b_14; unfold bd at h9_2; have h9_3 := b_23; unfold bd at h9_3; have h9_4 := bx_24; unfold bd at h9_4; have h9_5 := h_43; unfold bd at h9_5; have h9_6 := h_8; unfold bd at h9_6; have h8_0 := kb_1; unfold bd at h8_0; have h8_1 := kb_m1; unfold bd at h8_1; omega)
            have kb_0 : bd 0 0 (0 : Int32) := ⟨by decide, by decide⟩
            have go_ := g
            refine g_callEv (As := [.int 0, .int 2, .int x_24]) (rest := []) ⟨hx, hb, hml, hown, hts⟩ (r_X14_need_2 l dC dI L kd tys fr_38 H.size g.2.2.2.1 a0_ ma0_ ka0_ 0 kb_0 2 x_24) (cwV 3 hts (gV_ t_2403 t_2405 t_100 t_198 t_2406) rfl rfl rfl (by decide +kernel) ⟨(Nat.le_of_ble_eq_true rfl), (Nat.le_of_ble_eq_true rfl)⟩) (pre3V g hK ma0_ ka0_ (by decide) (q := (RX14, TX14, 67)) rfl) rfl hl.1 rfl (lv_room (Nat.le_of_ble_eq_true rfl)) dX14_readClass_54 (cl_f hck_0) g hK (by decide) (by decide) (fx' := [(12, 0, q0_, .int x_42), (14, 13, a0_, .long x_36), (14, 12, a0_, .long x_35), (14, 8, a0_, .int x_24), (14, 6, a0_, .int x_15), (14, 10, a0_, .int x_7), (14, 2, a0_, .ref q0_), (14, 25, a0_, .int op_)]) rfl (fun xr_603 fr_603 H locs mxr_603 kxr_603 hp hMr_603 g => ?_) (fun fr_603 H locs hp hMr_603 g => ?_)
            · have hG_604 := isV.frame hMr_603 go_.2.2.2.1 mq0_ kq0_ (by decide) (by decide) hG_597
              have hG_605 := mN.frame hMr_603 go_.2.2.2.1 mq0_ kq0_ (by decide) (by decide) hG_598
              have hG_606 := FR.frame hMr_603 go_.2.2.2.1 mq0_ kq0_ (by decide) (by decide) hG_599
              have hG_607 := cEq.frame hMr_603 go_.2.2.2.1 ma0_ ka0_ (by decide) (by decide) hG_600
              subst hQ
              exact leavesX hempty hlocks (fun t ht hW => g_thrZ g hK mxr_603 kxr_603 ⟨hG_606, (by omega)⟩ ht hW) g.2.2.1.2.2
            · exact hp.elim
          · have fc_601 := eq_f c_601
            have b_608 : bd 0 (-1) r_38 := eqX fc_601 h_41 kb_m1 (by decide)
            exact bd_no b_608 (by decide)
