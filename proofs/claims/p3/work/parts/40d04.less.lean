set_option maxHeartbeats 4000000 in
set_option maxRecDepth 100000 in
theorem r_X14_shrink (l : Launch) (dC : Nat → ClassId) (dI : Nat → Nat → Nat) (L : List Nat) (kd : Nat → Nat) (tys : List (ClassId × FieldType)) (f0 : Nat → va_E) (sz : Nat) (hWT : WT L kd tys f0) (adK adV : Nat → Nat) (a0_ : Nat) (ma0_ : a0_ ∈ L) (ka0_ : kd a0_ = 14) (q0_ : Nat) (mq0_ : q0_ ∈ L) (kq0_ : kd q0_ = 12) (V_ : PV) (δ_ : Nat → Nat) (hW : wfP V_ δ_) (hGoa0_ : oOK f0 a0_ V_) (hGwa0_ : rOK f0 a0_ V_) (hGVq0_ : isV f0 q0_ V_) (hGmq0_ : mOK f0 q0_ V_) (hfx : Fs L kd f0 [(14, 1, a0_, .ref q0_)]) : Met l yX14_shrink (.code yX14_shrink cX14_shrink 5 (some .int) :: lw_g) ({ frames := 979, cells := 0, slots := 0, locals := 39167 }) (va_Pc [.ref a0_] (P3A (dC, dI) L tys f0 sz adK adV)) (va_Qi (fun (r : Int32) (f : Nat → va_E) => ((rOK f a0_ V_) ∧ (oOK f a0_ V_) ∧ True)) (Q3 (dC, dI) L kd tys [(14, 30), (14, 31), (14, 32), (14, 33), (14, 34), (14, 35), (14, 36), (14, 37), (14, 38), (14, 39), (14, 40), (14, 45), (14, 51), (14, 52), (14, 53), (14, 55), (14, 65), (14, 66)] [200, 215, 216, 217, 218, 219, 220, 221, 222, 223, 224, 225, 226, 227, 228, 229, 230, 231, 232] f0 sz) (pA L sz)) 0 0 (pA L sz) := by
  refine Met.ofW (cc := cX14_shrink) (maxL := 5) (ret := (some .int)) (by decide) rfl ?_
  intro p e s m args below meth c s₁ B hml hv
  obtain ⟨rfl, ⟨hsz, hP, hK, hD0⟩, hAm⟩ := hv
  have hx := B.exec
  have hb := B.bytes
  have hr := B.returns
  have hts := atoms_spec (ws := (.code yX14_shrink cX14_shrink 5 (some .int) :: lw_g)) B.pre
  have hown : s.vm.findClass RX14 = some m.cls := findClass_of_methodNamed B.named
  have hlocks := B.notSynchronized
  subst hsz
  have g : G3 (dC, dI) L kd tys s f0 [(14, 30), (14, 31), (14, 32), (14, 33), (14, 34), (14, 35), (14, 36), (14, 37), (14, 38), (14, 39), (14, 40), (14, 45), (14, 51), (14, 52), (14, 53), (14, 55), (14, 65), (14, 66)] [200, 215, 216, 217, 218, 219, 220, 221, 222, 223, 224, 225, 226, 227, 228, 229, 230, 231, 232] f0 s.heap [] [(14, 1, a0_, .ref q0_)] := G3.start hP hD0 hWT hfx
  have hl := lv_entry ([.ref a0_]) (n := 5) (Nat.le_of_ble_eq_true rfl)
  rw [lg_entry_eq]
  generalize (lg_sl ([.ref a0_]) ++ List.replicate (5 - (lg_sl ([.ref a0_])).length) Slot.unset).toArray = ls at hl ⊢
  have hl : lv_has ls 5 [(0, .ref a0_)] := hl
  refine W_q (fun Q hQ => ?_)
  obtain ⟨x_1, bx_1, g⟩ := g_facti g ma0_ ka0_ (by decide) 51 rfl
  obtain ⟨x_2, bx_2, g⟩ := g_facti g ma0_ ka0_ (by decide) 52 rfl
  obtain ⟨R_3, hR_4, hrw_5⟩ := (id hGwa0_)
  have hrw_5 := hrw_5 x_1 x_2 (fx_at g (i := 1) rfl).2.2.2 (fx_at g (i := 0) rfl).2.2.2
  refine lv_aload_n hx hb dX14_shrink_0 rfl (lv_at hl 0 rfl) ?_
  refine g_geti (C := RX14) (T := TX14) (N := 67) hx hb hts (mc_ inX14) hown hK g ma0_ ka0_ (by decide) rfl 55 (by decide) rfl (hts _ (List.mem_cons_of_mem _ t_2201)) (fun _ h9 => h9) rfl dX14_shrink_1 (fun x_6 bx_6 g => ?_)
  have kb_0 : bd 0 0 (0 : Int32) := ⟨by decide, by decide⟩
  refine lv_if_le (tgt := 14) hx hb dX14_shrink_4 (by decide) (fun c_7 => ?_) (fun c_7 => ?_)
  · have fc_7 := le_f c_7
    have b_8 : bd (-2147483648) 0 x_6 := leL fc_7 (bdT x_6) kb_0 (by decide)
    refine lv_bipush (v := (-2)) hx hb dX14_shrink_14 (by decide) ?_
    subst hQ
    exact W.iret (v := (-2)) hx hb hr (fun t ht hW => ⟨⟨_, _, rfl, ⟨hGwa0_, hGoa0_, trivial⟩, q3_of g hK ht hW⟩, g.2.2.1.F ht⟩) g.2.2.1.2.2 dX14_shrink_16
  · have fc_7 := nle_f c_7
    have b_9 : bd 1 2147483647 x_6 := ltR fc_7 kb_0 (bdT x_6) (by decide)
    refine lv_aload_n hx hb dX14_shrink_7 rfl (lv_at hl 0 rfl) ?_
    refine g_geti (C := RX14) (T := TX14) (N := 67) hx hb hts (mc_ inX14) hown hK g ma0_ ka0_ (by decide) rfl 53 (by decide) rfl (hts _ (List.mem_cons_of_mem _ t_2199)) (fun _ h9 => h9) rfl dX14_shrink_8 (fun x_10 bx_10 g => ?_)
    refine lv_if_eq (tgt := 17) hx hb dX14_shrink_11 (by decide) (fun c_11 => ?_) (fun c_11 => ?_)
    · have fc_11 := eq_f c_11
      have b_12 : bd 0 0 x_10 := eqX fc_11 bx_10 kb_0 (by decide)
      refine lv_aload_n hx hb dX14_shrink_17 rfl (lv_at hl 0 rfl) ?_
      refine g_getk (C := RX14) (T := TX14) (N := 67) hx hb hts (mc_ inX14) hown hK g rfl 55 (by decide) rfl (hts _ (List.mem_cons_of_mem _ t_2201)) (fun _ h9 => h9) 1 rfl dX14_shrink_18 ?_
      refine lv_istore_n (lv' := [(1, .int x_6), (0, .ref a0_)]) hx hb dX14_shrink_21 rfl hl (by decide) rfl (fun ls hl => ?_)
      refine lv_aload_n hx hb dX14_shrink_22 rfl (lv_at hl 1 rfl) ?_
      refine g_getr (K := 228) (C := RX14) (T := TX14) (N := 67) hx hb hts (mc_ inX14) hown hK g ma0_ ka0_ (by decide) rfl 56 (by decide) rfl (hts _ (List.mem_cons_of_mem _ t_2202)) (fun _ h9 => h9) rfl dX14_shrink_23 (fun a_13 ma_13 ka_13 g => ?_)
      refine lv_iconst (v := 2) hx hb dX14_shrink_26 (by decide) ?_
      refine g_iald hx hb hK g ma_13 ka_13 (by decide) rfl (by unfold vp_in; decide) dX14_shrink_27 (fun x_14 bx_14 cx_14 => ?_)
      refine lv_istore_n (lv' := [(2, .int x_14), (1, .int x_6), (0, .ref a0_)]) hx hb dX14_shrink_28 rfl hl (by decide) rfl (fun ls hl => ?_)
      refine lv_iconst (v := 0) hx hb dX14_shrink_29 (by decide) ?_
      refine lv_istore_n (lv' := [(3, .int 0), (2, .int x_14), (1, .int x_6), (0, .ref a0_)]) hx hb dX14_shrink_30 rfl hl (by decide) rfl (fun ls hl => ?_)
      have loop_15 : ∀ (n : Nat) (v31_3 : Int32), ((n : Int) - 1 < (n : Int)) → ∀ (f : Nat → va_E) (H : Heap) (locs : List Loc) (ls : Array Slot), G3 (dC, dI) L kd tys s f0 [(14, 30), (14, 31), (14, 32), (14, 33), (14, 34), (14, 35), (14, 36), (14, 37), (14, 38), (14, 39), (14, 40), (14, 45), (14, 51), (14, 52), (14, 53), (14, 55), (14, 65), (14, 66)] [200, 215, 216, 217, 218, 219, 220, 221, 222, 223, 224, 225, 226, 227, 228, 229, 230, 231, 232] f H locs [(14, 56, a0_, .ref a_13), (14, 1, a0_, .ref q0_)] → oOK f a0_ V_ → isV f q0_ V_ → mOK f q0_ V_ → (∃ R : RW, isW f a0_ R ∧ ∀ r k : Int32, fV f a0_ 51 = .int r → fV f a0_ 52 = .int k → rwOK V_ R r k ∧ muR V_ R r < n) → lv_has ls 5 [(3, .int v31_3), (2, .int x_14), (1, .int x_6), (0, .ref a0_)] → W p l e ({ frames := 979, cells := 0, slots := 0, locals := 39167 } : Room) s m [.ref a0_].toArray below meth c H locs 0 0 Q (F0 m 31 ls []) := by
        intro n31
        induction n31 with
        | zero =>
          intro v31_3  hm31 f H locs ls g hG31_o_a0_ hG31_V_q0_ hG31_m_q0_ ⟨R31, hW31, hI31⟩ hl
          obtain ⟨r9, b9, g⟩ := g_facti g ma0_ ka0_ (by decide) 51 rfl; obtain ⟨k9, c9, g⟩ := g_facti g ma0_ ka0_ (by decide) 52 rfl; exact absurd (hI31 r9 k9 (fx_at g (i := 1) rfl).2.2.2 (fx_at g (i := 0) rfl).2.2.2).2 (Nat.not_lt_zero _)
        | succ n31 ih31 =>
          intro v31_3  hm31 f H locs ls g hG31_o_a0_ hG31_V_q0_ hG31_m_q0_ ⟨R31, hW31, hI31⟩ hl
          obtain ⟨x_16, bx_16, g⟩ := g_facti g ma0_ ka0_ (by decide) 51 rfl
          obtain ⟨x_17, bx_17, g⟩ := g_facti g ma0_ ka0_ (by decide) 52 rfl
          have hq_18 := hI31 x_16 x_17 (fx_at g (i := 1) rfl).2.2.2 (fx_at g (i := 0) rfl).2.2.2
          refine lv_aload_n hx hb dX14_shrink_31 rfl (lv_at hl 3 rfl) ?_
          refine lv_iload_n hx hb dX14_shrink_32 rfl (lv_at hl 2 rfl) ?_
          refine lv_iload_n hx hb dX14_shrink_33 rfl (lv_at hl 1 rfl) ?_
          have go_ := g
          refine g_calli (va_runV (As := [.int x_6, .int x_14]) (rest := []) ⟨hx, hb, hml, hown, hts⟩ (r_X14_isLess l dC dI L kd tys f H.size g.2.2.2.1 adK adV a0_ ma0_ ka0_ x_6 x_14 q0_ mq0_ kq0_ x_16 bx_16 x_17 bx_17 V_ δ_ hW (fun j => aI f (rf f a0_ 27) j) R31 OA.refl hW31 hG31_o_a0_ hG31_V_q0_ hG31_m_q0_ hq_18.1 (g.fcts [3, 1, 0] rfl)) (cwV 2 hts (gV_ t_2788 t_2790 t_178 t_198 t_2791) rfl rfl rfl (by decide +kernel) ⟨(Nat.le_of_ble_eq_true rfl), (Nat.le_of_ble_eq_true rfl)⟩) (pre3VA g hK hAm ma0_ ka0_ (by decide) (q := (RX14, TX14, 67)) rfl) rfl rfl hl.1 rfl (lv_room (Nat.le_of_ble_eq_true rfl)) dX14_shrink_34 ⟨(Nat.le_of_ble_eq_true rfl), (Nat.le_of_ble_eq_true rfl)⟩) g hK (by decide) (by decide) (fx' := [(14, 56, a0_, .ref a_13), (14, 1, a0_, .ref q0_)]) rfl (fun r_19 fr_19 H locs hp hMr_19 g => ?_)
          rcases hp with ⟨hx_20, hx_21, h_22, -⟩ | ⟨hx_23, hx_24, h_25, h_26, -⟩
          · have hG_27 := isV.frame hMr_19 go_.2.2.2.1 mq0_ kq0_ (by decide) (by decide) hG31_V_q0_
            have hG_28 := mOK.frame hMr_19 go_.2.2.2.1 mq0_ kq0_ (by decide) (by decide) hG31_m_q0_
            obtain rfl : r_19 = 0 := h_22
            refine lv_if_eq (tgt := 46) hx hb dX14_shrink_37 (by decide) (fun c_ => ?_) (fun c_ => absurd (by decide) c_)
            refine lv_aload_n hx hb dX14_shrink_46 rfl (lv_at hl 3 rfl) ?_
            obtain ⟨x_29, bx_29, g⟩ := g_facti g ma0_ ka0_ (by decide) 65 rfl
            obtain ⟨x_30, bx_30, g⟩ := g_facti g ma0_ ka0_ (by decide) 66 rfl
            obtain ⟨T_31, hT_32, htw_33⟩ := (id hx_21)
            have htw_33 := htw_33 x_29 x_30 (fx_at g (i := 1) rfl).2.2.2 (fx_at g (i := 0) rfl).2.2.2
            have go_ := g
            refine g_callv (va_runV (As := []) (rest := []) ⟨hx, hb, hml, hown, hts⟩ (r_X14_takeRow l dC dI L kd tys fr_19 H.size g.2.2.2.1 a0_ ma0_ ka0_ q0_ mq0_ kq0_ x_29 bx_29 x_30 bx_30 V_ δ_ hW T_31 hT_32 hG_27 htw_33 (g.fcts [3, 1, 0] rfl)) (cwV 0 hts (gV_ t_2772 t_2774 t_177 t_198 t_2775) rfl rfl rfl (by decide +kernel) ⟨(Nat.le_of_ble_eq_true rfl), (Nat.le_of_ble_eq_true rfl)⟩) (pre3V g hK ma0_ ka0_ (by decide) (q := (RX14, TX14, 67)) rfl) rfl rfl hl.1 rfl (lv_room (Nat.le_of_ble_eq_true rfl)) dX14_shrink_47 ⟨(Nat.le_of_ble_eq_true rfl), (Nat.le_of_ble_eq_true rfl)⟩) g hK (by decide) (by decide) (fx' := [(14, 66, a0_, .int x_30), (14, 65, a0_, .int x_29), (14, 56, a0_, .ref a_13), (14, 1, a0_, .ref q0_)]) rfl (fun fr_34 H locs hp hMr_34 g => ?_)
            obtain ⟨hx_35, x_36, ⟨h_37, rh_37⟩, x_38, ⟨h_39, rh_39⟩, hF_40⟩ := hp
            have hG_41 := isV.frame hMr_34 go_.2.2.2.1 mq0_ kq0_ (by decide) (by decide) hG_27
            have hG_42 := mOK.frame hMr_34 go_.2.2.2.1 mq0_ kq0_ (by decide) (by decide) hG_28
            have hG_43 := oOK.frame hMr_34 go_.2.2.2.1 ma0_ ka0_ (by decide) (by decide) hx_20
            have hG_44 := tOK.frame hMr_34 go_.2.2.2.1 ma0_ ka0_ (by decide) (by decide) hx_21
            have hG_45 := isT.frame hMr_34 go_.2.2.2.1 ma0_ ka0_ (by decide) (by decide) hT_32
            obtain ⟨R_46, hR_47, hp_48, hr_49⟩ := hx_35
            have g := g.more hF_40
            refine lv_aload_n hx hb dX14_shrink_50 rfl (lv_at hl 3 rfl) ?_
            have go_ := g
            refine g_calli (va_runV (As := []) (rest := []) ⟨hx, hb, hml, hown, hts⟩ (r_X14_runRow l dC dI L kd tys fr_34 H.size g.2.2.2.1 adK adV a0_ ma0_ ka0_ q0_ mq0_ kq0_ x_36 h_37 x_38 h_39 V_ δ_ hW (fun j => aI fr_34 (rf fr_34 a0_ 27) j) R_46 OA.refl hR_47 hG_41 hG_42 (hr_49 _ _ (by have h9_0 := bx_1; unfold bd at h9_0; have h9_1 := b_12; unfold bd at h9_1; have h9_2 := bx_16; unfold bd at h9_2; have h9_3 := bx_17; unfold bd at h9_3; have h9_4 := bx_2; unfold bd at h9_4; have h9_5 := bx_29; unfold bd at h9_5; have h9_6 := bx_30; unfold bd at h9_6; have h9_7 := h_37; unfold bd at h9_7; have h9_8 := h_39; unfold bd at h9_8; have h9_9 := b_9; unfold bd at h9_9; have h8_0 := kb_0; unfold bd at h8_0; omega) (by have h9_0 := bx_1; unfold bd at h9_0; have h9_1 := b_12; unfold bd at h9_1; have h9_2 := bx_16; unfold bd at h9_2; have h9_3 := bx_17; unfold bd at h9_3; have h9_4 := bx_2; unfold bd at h9_4; have h9_5 := bx_29; unfold bd at h9_5; have h9_6 := bx_30; unfold bd at h9_6; have h9_7 := h_37; unfold bd at h9_7; have h9_8 := h_39; unfold bd at h9_8; have h9_9 := b_9; unfold bd at h9_9; have h8_0 := kb_0; unfold bd at h8_0; omega)) (g.fcts [5, 0, 1] rfl)) (cwV 0 hts (gV_ t_2614 t_2616 t_141 t_198 t_2617) rfl rfl rfl (by decide +kernel) ⟨(Nat.le_of_ble_eq_true rfl), (Nat.le_of_ble_eq_true rfl)⟩) (pre3VA g hK hAm ma0_ ka0_ (by decide) (q := (RX14, TX14, 67)) rfl) rfl rfl hl.1 rfl (lv_room (Nat.le_of_ble_eq_true rfl)) dX14_shrink_51 ⟨(Nat.le_of_ble_eq_true rfl), (Nat.le_of_ble_eq_true rfl)⟩) g hK (by decide) (by decide) (fx' := [(14, 51, a0_, .int x_36), (14, 52, a0_, .int x_38), (14, 66, a0_, .int x_30), (14, 65, a0_, .int x_29), (14, 56, a0_, .ref a_13), (14, 1, a0_, .ref q0_)]) rfl (fun r_50 fr_50 H locs hp hMr_50 g => ?_)
            obtain ⟨hx_51, hF_52⟩ := hp
            have hG_53 := isV.frame hMr_50 go_.2.2.2.1 mq0_ kq0_ (by decide) (by decide) hG_41
            have hG_54 := mOK.frame hMr_50 go_.2.2.2.1 mq0_ kq0_ (by decide) (by decide) hG_42
            have hG_55 := tOK.frame hMr_50 go_.2.2.2.1 ma0_ ka0_ (by decide) (by decide) hG_44
            have hG_56 := isT.frame hMr_50 go_.2.2.2.1 ma0_ ka0_ (by decide) (by decide) hG_45
            have hG_57 := isW.frame hMr_50 go_.2.2.2.1 ma0_ ka0_ (by decide) (by decide) hR_47
            have g := g.more hF_52
            refine lv_istore (lv' := [(4, .int r_50), (3, .int v31_3), (2, .int x_14), (1, .int x_6), (0, .ref a0_)]) hx hb dX14_shrink_54 hl (by decide) rfl (fun ls hl => ?_)
            refine lv_iload_n hx hb dX14_shrink_56 rfl (lv_at hl 1 rfl) ?_
            subst hQ
            exact W.iret (v := v31_3) hx hb hr (fun t ht hW => ⟨⟨_, _, rfl, ⟨(rOK.of hG_57 g 1 2 rfl rfl (hr_49 _ _ (by have h9_0 := bx_1; unfold bd at h9_0; have h9_1 := b_12; unfold bd at h9_1; have h9_2 := bx_16; unfold bd at h9_2; have h9_3 := bx_17; unfold bd at h9_3; have h9_4 := bx_2; unfold bd at h9_4; have h9_5 := bx_29; unfold bd at h9_5; have h9_6 := bx_30; unfold bd at h9_6; have h9_7 := h_37; unfold bd at h9_7; have h9_8 := h_39; unfold bd at h9_8; have h9_9 := b_9; unfold bd at h9_9; have h8_0 := kb_0; unfold bd at h8_0; omega) (by have h9_0 := bx_1; unfold bd at h9_0; have h9_1 := b_12; unfold bd at h9_1; have h9_2 := bx_16; unfold bd at h9_2; have h9_3 := bx_17; unfold bd at h9_3; have h9_4 := bx_2; unfold bd at h9_4; have h9_5 := bx_29; unfold bd at h9_5; have h9_6 := bx_30; unfold bd at h9_6; have h9_7 := h_37; unfold bd at h9_7; have h9_8 := h_39; unfold bd at h9_8; have h9_9 := b_9; unfold bd at h9_9; have h8_0 := kb_0; unfold bd at h8_0; omega))), hx_51, trivial⟩, q3_of g hK ht hW⟩, g.2.2.1.F ht⟩) g.2.2.1.2.2 dX14_shrink_57
          · have hG_58 := isV.frame hMr_19 go_.2.2.2.1 mq0_ kq0_ (by decide) (by decide) hG31_V_q0_
            have hG_59 := mOK.frame hMr_19 go_.2.2.2.1 mq0_ kq0_ (by decide) (by decide) hG31_m_q0_
            obtain rfl : r_19 = 1 := h_25
            have b_60 : bd 1 10 x_16 := eqX rfl bx_16 h_26 (by decide)
            refine lv_if_eq (tgt := 46) hx hb dX14_shrink_37 (by decide) (fun c_ => absurd c_ (by decide)) (fun c_ => ?_)
            have kb_1 : bd 1 1 (1 : Int32) := ⟨by decide, by decide⟩
            obtain ⟨y_61, ey_61⟩ : ∃ z : Int32, z = v31_3 + 1 := ⟨_, rfl⟩
            refine lv_iinc (v := y_61) (lv' := [(3, .int y_61), (2, .int x_14), (1, .int x_6), (0, .ref a0_)]) hx hb dX14_shrink_40 hl (k := 0) rfl (by rw [ey_61]; rfl) (by decide) rfl (fun ls hl => ?_)
            refine lv_goto (tgt := 31) hx hb dX14_shrink_43 (by decide) ?_
            have hl9 := lv_sub hl [0, 1, 2, 3] (by rfl : lv_pick [(3, .int y_61), (2, .int x_14), (1, .int x_6), (0, .ref a0_)] [0, 1, 2, 3] = [(3, .int y_61), (2, .int x_14), (1, .int x_6), (0, .ref a0_)])
            have g9 := g.sub (fx' := [(14, 56, a0_, .ref a_13), (14, 1, a0_, .ref q0_)]) [0, 1] rfl
            exact ih31  y_61  (by have h9_0 := bdT v31_3; unfold bd at h9_0; have h9_1 := bdT y_61; unfold bd at h9_1; have h9_2 := kb_0; unfold bd at h9_2; have h9_3 := kb_1; unfold bd at h9_3; omega) _ _ _ _ g9 hx_23 hG_58 hG_59 (Exists.elim hx_24 fun R9 h9 => ⟨R9, h9.1, fun r k h1 h2 => ⟨(h9.2 r k h1 h2).1, Nat.lt_of_lt_of_le (h9.2 r k h1 h2).2 (Nat.le_of_lt_succ hq_18.2)⟩⟩) hl9
      have hl9 := lv_sub hl [0, 1, 2, 3] (by rfl : lv_pick [(3, .int 0), (2, .int x_14), (1, .int x_6), (0, .ref a0_)] [0, 1, 2, 3] = [(3, .int 0), (2, .int x_14), (1, .int x_6), (0, .ref a0_)])
      have g9 := g.sub (fx' := [(14, 56, a0_, .ref a_13), (14, 1, a0_, .ref q0_)]) [0, 5] rfl
      exact loop_15 (muR V_ R_3 x_1 + 1) 0  (by have h9_0 := kb_0; unfold bd at h9_0; omega) _ _ _ _ g9 hGoa0_ hGVq0_ hGmq0_ ⟨_, hR_4, rw_at2 g 4 3 rfl rfl ⟨hrw_5, Nat.lt_succ_self _⟩⟩ hl9
    · have fc_11 := neq_f c_11
      have b_62 : bd 1 1 x_10 := neX fc_11 bx_10 kb_0 (by decide)
      refine lv_bipush (v := (-2)) hx hb dX14_shrink_14 (by decide) ?_
      subst hQ
      exact W.iret (v := (-2)) hx hb hr (fun t ht hW => ⟨⟨_, _, rfl, ⟨hGwa0_, hGoa0_, trivial⟩, q3_of g hK ht hW⟩, g.2.2.1.F ht⟩) g.2.2.1.2.2 dX14_shrink_16
