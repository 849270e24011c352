set_option maxHeartbeats 4000000 in
set_option maxRecDepth 100000 in
theorem r_X14_goOver_B2 (l : Launch) (dC : Nat → ClassId) (dI : Nat → Nat → Nat) (L : List Nat) (kd : Nat → Nat) (tys : List (ClassId × FieldType)) (f0 : Nat → va_E) (sz : Nat) (hWT : WT L kd tys f0) (adK adV : Nat → Nat) (a0_ : Nat) (ma0_ : a0_ ∈ L) (ka0_ : kd a0_ = 14) (x1_ : Int32) (bx1_ : bd 0 7 x1_) (x2_ : Int32) (bx2_ : bd 1 1 x2_) (q0_ : Nat) (mq0_ : q0_ ∈ L) (kq0_ : kd q0_ = 12) (r_ : Int32) (br_ : bd 1 1 r_) (k_ : Int32) (bk_ : bd 0 3 k_) (t_ : Int32) (bt_ : bd 0 0 t_) (V_ : PV) (δ_ : Nat → Nat) (hW : wfP V_ δ_) (RW_ : RW) (hV : isV f0 q0_ V_) (hWW : isW f0 a0_ RW_) (hmo : mOK f0 q0_ V_) (ho : oOK f0 a0_ V_) (hrw : rwOK V_ RW_ r_ k_) (hall : allC RW_ k_ x1_) (hcl : okc V_ x1_) (hrm : r_.toInt ≤ x2_.toInt) (hfx : Fs L kd f0 [(14, 1, a0_, .ref q0_), (14, 51, a0_, .int r_), (14, 52, a0_, .int k_), (14, 58, a0_, .int t_)]) : Met l yX14_goOver (.code yX14_goOver cX14_goOver 15 (some .boolean) :: lw_g) ({ frames := 978, cells := 0, slots := 0, locals := 39138 }) (va_Pc [.ref a0_, .int x1_, .int x2_] (P3A (dC, dI) L tys f0 sz adK adV)) (va_Qi (fun (r : Int32) (f : Nat → va_E) => (oOK f a0_ V_ ∧ tOK f a0_ V_ ∧ (∃ R : RW, isW f a0_ R ∧ pfx RW_ R r_ k_ ∧ ∀ r k : Int32, fV f a0_ 51 = .int r → fV f a0_ 52 = .int k → rwOK V_ R r k) ∧ bd 0 1 r ∧ True)) (Q3 (dC, dI) L kd tys [(14, 30), (14, 31), (14, 32), (14, 33), (14, 34), (14, 35), (14, 36), (14, 37), (14, 38), (14, 39), (14, 40), (14, 45), (14, 51), (14, 52), (14, 53), (14, 55), (14, 58), (14, 59), (14, 61), (14, 65), (14, 66)] [200, 215, 216, 217, 218, 219, 220, 221, 222, 223, 224, 225, 226, 227, 228, 229, 230, 231, 232] f0 sz) (pA L sz)) 0 0 (pA L sz) := by
  refine Met.ofW (cc := cX14_goOver) (maxL := 15) (ret := (some .boolean)) (by decide) rfl ?_
  intro p e s m args below meth c s₁ B hml hv
  obtain ⟨rfl, ⟨hsz, hP, hK, hD0⟩, hAm⟩ := hv
  have hx := B.exec
  have hb := B.bytes
  have hr := B.returns
  have hts := atoms_spec (ws := (.code yX14_goOver cX14_goOver 15 (some .boolean) :: lw_g)) B.pre
  have hown : s.vm.findClass RX14 = some m.cls := findClass_of_methodNamed B.named
  have hlocks := B.notSynchronized
  subst hsz
  have g : G3 (dC, dI) L kd tys s f0 [(14, 30), (14, 31), (14, 32), (14, 33), (14, 34), (14, 35), (14, 36), (14, 37), (14, 38), (14, 39), (14, 40), (14, 45), (14, 51), (14, 52), (14, 53), (14, 55), (14, 58), (14, 59), (14, 61), (14, 65), (14, 66)] [200, 215, 216, 217, 218, 219, 220, 221, 222, 223, 224, 225, 226, 227, 228, 229, 230, 231, 232] f0 s.heap [] [(14, 1, a0_, .ref q0_), (14, 51, a0_, .int r_), (14, 52, a0_, .int k_), (14, 58, a0_, .int t_)] := G3.start hP hD0 hWT hfx
  have hl := lv_entry ([.ref a0_, .int x1_, .int x2_]) (n := 15) (Nat.le_of_ble_eq_true rfl)
  rw [lg_entry_eq]
  generalize (lg_sl ([.ref a0_, .int x1_, .int x2_]) ++ List.replicate (15 - (lg_sl ([.ref a0_, .int x1_, .int x2_])).length) Slot.unset).toArray = ls at hl ⊢
  have hl : lv_has ls 15 [(0, .ref a0_), (1, .int x1_), (2, .int x2_)] := hl
  refine W_q (fun Q hQ => ?_)
  refine lv_aload_n hx hb dX14_goOver_0 rfl (lv_at hl 0 rfl) ?_
  refine g_getk (C := RX14) (T := TX14) (N := 67) hx hb hts (mc_ inX14) hown hK g rfl 51 (by decide) rfl (hts _ (List.mem_cons_of_mem _ t_2197)) (fun _ h9 => h9) 1 rfl dX14_goOver_1 ?_
  refine lv_iload_n hx hb dX14_goOver_4 rfl (lv_at hl 2 rfl) ?_
  refine lv_icmp_ne (tgt := 66) hx hb dX14_goOver_5 (by decide) (fun c_1 => ?_) (fun c_1 => ?_)
  · have fc_1 := neq_f c_1
    have b_2 : bd 2 0 r_ := neX fc_1 br_ bx2_ (by decide)
    exact bd_no b_2 (by decide)
  · have fc_1 := eq_f c_1
    refine lv_aload_n hx hb dX14_goOver_8 rfl (lv_at hl 0 rfl) ?_
    refine g_getk (C := RX14) (T := TX14) (N := 67) hx hb hts (mc_ inX14) hown hK g rfl 58 (by decide) rfl (hts _ (List.mem_cons_of_mem _ t_2204)) (fun _ h9 => h9) 3 rfl dX14_goOver_9 ?_
    refine lv_sipush (v := 600) hx hb dX14_goOver_12 (by decide) ?_
    have kb_600 : bd 600 600 (600 : Int32) := ⟨by decide, by decide⟩
    refine lv_icmp_ne (tgt := 20) hx hb dX14_goOver_15 (by decide) (fun c_3 => ?_) (fun c_3 => ?_)
    · have fc_3 := neq_f c_3
      refine lv_aload_n hx hb dX14_goOver_20 rfl (lv_at hl 0 rfl) ?_
      refine lv_aload_n hx hb dX14_goOver_21 rfl (lv_at hl 0 rfl) ?_
      have go_ := g
      refine g_calli (va_runV (As := []) (rest := [.ref a0_]) ⟨hx, hb, hml, hown, hts⟩ (r_X14_isTried l dC dI L kd tys f0 s.heap.size g.2.2.2.1 adK adV a0_ ma0_ ka0_ q0_ mq0_ kq0_ r_ (bd_sub br_ (by decide)) k_ bk_ V_ δ_ hW (fun j => aI f0 (rf f0 a0_ 27) j) RW_ OA.refl hWW hV hmo hrw (g.fcts [0, 1, 2] rfl)) (cwV 0 hts (gV_ t_2743 t_2745 t_171 t_198 t_2746) rfl rfl rfl (by decide +kernel) ⟨(Nat.le_of_ble_eq_true rfl), (Nat.le_of_ble_eq_true rfl)⟩) (pre3VA g hK hAm ma0_ ka0_ (by decide) (q := (RX14, TX14, 67)) rfl) rfl rfl hl.1 rfl (lv_room (Nat.le_of_ble_eq_true rfl)) dX14_goOver_22 ⟨(Nat.le_of_ble_eq_true rfl), (Nat.le_of_ble_eq_true rfl)⟩) g hK (by decide) (by decide) (fx' := [(14, 1, a0_, .ref q0_), (14, 51, a0_, .int r_), (14, 52, a0_, .int k_)]) rfl (fun r_4 fr_4 H locs hp hMr_4 g => ?_)
      rcases hp with ⟨hx_5, h_6, hF_7⟩ | ⟨hx_8, h_9, hF_10⟩
      · have hG_11 := isV.frame hMr_4 go_.2.2.2.1 mq0_ kq0_ (by decide) (by decide) hV
        have hG_12 := isW.frame hMr_4 go_.2.2.2.1 ma0_ ka0_ (by decide) (by decide) hWW
        have hG_13 := mOK.frame hMr_4 go_.2.2.2.1 mq0_ kq0_ (by decide) (by decide) hmo
        obtain rfl : r_4 = 0 := h_6
        have g := g.more hF_7
        refine lv_if_eq (tgt := 35) hx hb dX14_goOver_25 (by decide) (fun c_ => ?_) (fun c_ => absurd (by decide) c_)
        refine lv_iconst (v := 0) hx hb dX14_goOver_35 (by decide) ?_
        have kb_0 : bd 0 0 (0 : Int32) := ⟨by decide, by decide⟩
        have go_ := g
        refine g_put (C := RX14) (T := TX14) (N := 67) hx hb hts (mc_ inX14) tyX14 tyX14_ok nmX14 hown hK g ma0_ ka0_ (by decide) rfl 61 (by decide) (hts _ (List.mem_cons_of_mem _ t_2207)) (fun _ h9 => h9) rfl rfl (okV_i (bd_sub kb_0 (by decide))) rfl rfl (by decide) (Or.inr (Or.inl (by decide))) (fx' := [(14, 53, a0_, .int 0), (14, 1, a0_, .ref q0_), (14, 51, a0_, .int r_), (14, 52, a0_, .int k_)]) rfl dX14_goOver_36 (fun f H locs hM_14 g => ?_)
        have hG_15 := isV.frame hM_14 go_.2.2.2.1 mq0_ kq0_ (by decide) (by decide) hG_11
        have hG_16 := isW.frame hM_14 go_.2.2.2.1 ma0_ ka0_ (by decide) (by decide) hG_12
        have hG_17 := mOK.frame hM_14 go_.2.2.2.1 mq0_ kq0_ (by decide) (by decide) hG_13
        have hG_18 := oOK.frame hM_14 go_.2.2.2.1 ma0_ ka0_ (by decide) (by decide) hx_5
        refine lv_aload_n hx hb dX14_goOver_39 rfl (lv_at hl 0 rfl) ?_
        have go_ := g
        refine g_callv (va_runV (As := []) (rest := []) ⟨hx, hb, hml, hown, hts⟩ (r_X14_keepRow l dC dI L kd tys f H.size g.2.2.2.1 a0_ ma0_ ka0_ q0_ mq0_ kq0_ r_ (bd_sub br_ (by decide)) k_ bk_ V_ δ_ hW RW_ hG_16 hG_15 hrw (g.fcts [2, 3, 4] rfl)) (cwV 0 hts (gV_ t_2756 t_2758 t_173 t_198 t_2759) rfl rfl rfl (by decide +kernel) ⟨(Nat.le_of_ble_eq_true rfl), (Nat.le_of_ble_eq_true rfl)⟩) (pre3V g hK ma0_ ka0_ (by decide) (q := (RX14, TX14, 67)) rfl) rfl rfl hl.1 rfl (lv_room (Nat.le_of_ble_eq_true rfl)) dX14_goOver_40 ⟨(Nat.le_of_ble_eq_true rfl), (Nat.le_of_ble_eq_true rfl)⟩) g hK (by decide) (by decide) (fx' := [(14, 61, a0_, .int 0), (14, 53, a0_, .int 0), (14, 1, a0_, .ref q0_), (14, 51, a0_, .int r_), (14, 52, a0_, .int k_)]) rfl (fun fr_19 H locs hp hMr_19 g => ?_)
        obtain ⟨hx_20, hF_21⟩ := hp
        have hG_22 := isV.frame hMr_19 go_.2.2.2.1 mq0_ kq0_ (by decide) (by decide) hG_15
        have hG_23 := isW.frame hMr_19 go_.2.2.2.1 ma0_ ka0_ (by decide) (by decide) hG_16
        have hG_24 := mOK.frame hMr_19 go_.2.2.2.1 mq0_ kq0_ (by decide) (by decide) hG_17
        have hG_25 := oOK.frame hMr_19 go_.2.2.2.1 ma0_ ka0_ (by decide) (by decide) hG_18
        have g := g.more hF_21
        refine lv_aload_n hx hb dX14_goOver_43 rfl (lv_at hl 0 rfl) ?_
        refine g_getk (C := RX14) (T := TX14) (N := 67) hx hb hts (mc_ inX14) hown hK g rfl 61 (by decide) rfl (hts _ (List.mem_cons_of_mem _ t_2207)) (fun _ h9 => h9) 2 rfl dX14_goOver_44 ?_
        refine lv_if_gt (tgt := 60) hx hb dX14_goOver_47 (by decide) (fun c_ => absurd c_ (by decide)) (fun c_ => ?_)
        refine lv_aload_n hx hb dX14_goOver_50 rfl (lv_at hl 0 rfl) ?_
        refine g_geti (C := RX14) (T := TX14) (N := 67) hx hb hts (mc_ inX14) hown hK g ma0_ ka0_ (by decide) rfl 58 (by decide) rfl (hts _ (List.mem_cons_of_mem _ t_2204)) (fun _ h9 => h9) rfl dX14_goOver_51 (fun x_26 bx_26 g => ?_)
        refine lv_sipush (v := 600) hx hb dX14_goOver_54 (by decide) ?_
        refine lv_icmp_ne (tgt := 64) hx hb dX14_goOver_57 (by decide) (fun c_27 => ?_) (fun c_27 => ?_)
        · have fc_27 := neq_f c_27
          refine lv_iconst (v := 0) hx hb dX14_goOver_64 (by decide) ?_
          subst hQ
          exact W.zret (v := 0) hx hb hr (nar_z (bd_sub kb_0 (by decide) : bd 0 1 _).1 (bd_sub kb_0 (by decide) : bd 0 1 _).2) (fun t ht hW => ⟨⟨_, _, rfl, ⟨hG_25, (tOK.of hx_20 g 1 2 rfl rfl hrw), ⟨_, hG_23, (pfx.rf (r := r_)), rw_at g 6 7 rfl rfl hrw⟩, (bd_sub kb_0 (by decide)), trivial⟩, q3_of g hK ht hW⟩, g.2.2.1.F ht⟩) g.2.2.1.2.2 dX14_goOver_65
        · have fc_27 := eq_f c_27
          have b_28 : bd 600 600 x_26 := eqX fc_27 (bdT x_26) kb_600 (by decide)
          refine lv_iconst (v := 1) hx hb dX14_goOver_60 (by decide) ?_
          refine lv_goto (tgt := 65) hx hb dX14_goOver_61 (by decide) ?_
          have kb_1 : bd 1 1 (1 : Int32) := ⟨by decide, by decide⟩
          subst hQ
          exact W.zret (v := 1) hx hb hr (nar_z (bd_sub kb_1 (by decide) : bd 0 1 _).1 (bd_sub kb_1 (by decide) : bd 0 1 _).2) (fun t ht hW => ⟨⟨_, _, rfl, ⟨hG_25, (tOK.of hx_20 g 1 2 rfl rfl hrw), ⟨_, hG_23, (pfx.rf (r := r_)), rw_at g 6 7 rfl rfl hrw⟩, (bd_sub kb_1 (by decide)), trivial⟩, q3_of g hK ht hW⟩, g.2.2.1.F ht⟩) g.2.2.1.2.2 dX14_goOver_65
      · have hG_29 := isV.frame hMr_4 go_.2.2.2.1 mq0_ kq0_ (by decide) (by decide) hV
        have hG_30 := isW.frame hMr_4 go_.2.2.2.1 ma0_ ka0_ (by decide) (by decide) hWW
        have hG_31 := mOK.frame hMr_4 go_.2.2.2.1 mq0_ kq0_ (by decide) (by decide) hmo
        obtain rfl : r_4 = 1 := h_9
        have g := g.more hF_10
        refine lv_if_eq (tgt := 35) hx hb dX14_goOver_25 (by decide) (fun c_ => absurd c_ (by decide)) (fun c_ => ?_)
        refine lv_aload_n hx hb dX14_goOver_28 rfl (lv_at hl 0 rfl) ?_
        refine g_geti (C := RX14) (T := TX14) (N := 67) hx hb hts (mc_ inX14) hown hK g ma0_ ka0_ (by decide) rfl 55 (by decide) rfl (hts _ (List.mem_cons_of_mem _ t_2201)) (fun _ h9 => h9) rfl dX14_goOver_29 (fun x_32 bx_32 g => ?_)
        refine lv_goto (tgt := 36) hx hb dX14_goOver_32 (by decide) ?_
        have go_ := g
        refine g_put (C := RX14) (T := TX14) (N := 67) hx hb hts (mc_ inX14) tyX14 tyX14_ok nmX14 hown hK g ma0_ ka0_ (by decide) rfl 61 (by decide) (hts _ (List.mem_cons_of_mem _ t_2207)) (fun _ h9 => h9) rfl rfl (okV_i (bdT x_32)) rfl rfl (by decide) (Or.inr (Or.inl (by decide))) (fx' := [(14, 55, a0_, .int x_32), (14, 53, a0_, .int 0), (14, 1, a0_, .ref q0_), (14, 51, a0_, .int r_), (14, 52, a0_, .int k_)]) rfl dX14_goOver_36 (fun f H locs hM_33 g => ?_)
        have hG_34 := isV.frame hM_33 go_.2.2.2.1 mq0_ kq0_ (by decide) (by decide) hG_29
        have hG_35 := isW.frame hM_33 go_.2.2.2.1 ma0_ ka0_ (by decide) (by decide) hG_30
        have hG_36 := mOK.frame hM_33 go_.2.2.2.1 mq0_ kq0_ (by decide) (by decide) hG_31
        have hG_37 := oOK.frame hM_33 go_.2.2.2.1 ma0_ ka0_ (by decide) (by decide) hx_8
        refine lv_aload_n hx hb dX14_goOver_39 rfl (lv_at hl 0 rfl) ?_
        have go_ := g
        refine g_callv (va_runV (As := []) (rest := []) ⟨hx, hb, hml, hown, hts⟩ (r_X14_keepRow l dC dI L kd tys f H.size g.2.2.2.1 a0_ ma0_ ka0_ q0_ mq0_ kq0_ r_ (bd_sub br_ (by decide)) k_ bk_ V_ δ_ hW RW_ hG_35 hG_34 hrw (g.fcts [3, 4, 5] rfl)) (cwV 0 hts (gV_ t_2756 t_2758 t_173 t_198 t_2759) rfl rfl rfl (by decide +kernel) ⟨(Nat.le_of_ble_eq_true rfl), (Nat.le_of_ble_eq_true rfl)⟩) (pre3V g hK ma0_ ka0_ (by decide) (q := (RX14, TX14, 67)) rfl) rfl rfl hl.1 rfl (lv_room (Nat.le_of_ble_eq_true rfl)) dX14_goOver_40 ⟨(Nat.le_of_ble_eq_true rfl), (Nat.le_of_ble_eq_true rfl)⟩) g hK (by decide) (by decide) (fx' := [(14, 61, a0_, .int x_32), (14, 55, a0_, .int x_32), (14, 53, a0_, .int 0), (14, 1, a0_, .ref q0_), (14, 51, a0_, .int r_), (14, 52, a0_, .int k_)]) rfl (fun fr_38 H locs hp hMr_38 g => ?_)
        obtain ⟨hx_39, hF_40⟩ := hp
        have hG_41 := isV.frame hMr_38 go_.2.2.2.1 mq0_ kq0_ (by decide) (by decide) hG_34
        have hG_42 := isW.frame hMr_38 go_.2.2.2.1 ma0_ ka0_ (by decide) (by decide) hG_35
        have hG_43 := mOK.frame hMr_38 go_.2.2.2.1 mq0_ kq0_ (by decide) (by decide) hG_36
        have hG_44 := oOK.frame hMr_38 go_.2.2.2.1 ma0_ ka0_ (by decide) (by decide) hG_37
        have g := g.more hF_40
        refine lv_aload_n hx hb dX14_goOver_43 rfl (lv_at hl 0 rfl) ?_
        refine g_getk (C := RX14) (T := TX14) (N := 67) hx hb hts (mc_ inX14) hown hK g rfl 61 (by decide) rfl (hts _ (List.mem_cons_of_mem _ t_2207)) (fun _ h9 => h9) 2 rfl dX14_goOver_44 ?_
        have kb_0 : bd 0 0 (0 : Int32) := ⟨by decide, by decide⟩
        refine lv_if_gt (tgt := 60) hx hb dX14_goOver_47 (by decide) (fun c_45 => ?_) (fun c_45 => ?_)
        · have fc_45 := lt_f c_45
          have b_46 : bd 1 2147483647 x_32 := ltR fc_45 kb_0 (bdT x_32) (by decide)
          refine lv_iconst (v := 1) hx hb dX14_goOver_60 (by decide) ?_
          refine lv_goto (tgt := 65) hx hb dX14_goOver_61 (by decide) ?_
          have kb_1 : bd 1 1 (1 : Int32) := ⟨by decide, by decide⟩
          subst hQ
          exact W.zret (v := 1) hx hb hr (nar_z (bd_sub kb_1 (by decide) : bd 0 1 _).1 (bd_sub kb_1 (by decide) : bd 0 1 _).2) (fun t ht hW => ⟨⟨_, _, rfl, ⟨hG_44, (tOK.of hx_39 g 0 1 rfl rfl hrw), ⟨_, hG_42, (pfx.rf (r := r_)), rw_at g 6 7 rfl rfl hrw⟩, (bd_sub kb_1 (by decide)), trivial⟩, q3_of g hK ht hW⟩, g.2.2.1.F ht⟩) g.2.2.1.2.2 dX14_goOver_65
        · have fc_45 := nlt_f c_45
          have b_47 : bd (-2147483648) 0 x_32 := leL fc_45 (bdT x_32) kb_0 (by decide)
          refine lv_aload_n hx hb dX14_goOver_50 rfl (lv_at hl 0 rfl) ?_
          refine g_geti (C := RX14) (T := TX14) (N := 67) hx hb hts (mc_ inX14) hown hK g ma0_ ka0_ (by decide) rfl 58 (by decide) rfl (hts _ (List.mem_cons_of_mem _ t_2204)) (fun _ h9 => h9) rfl dX14_goOver_51 (fun x_48 bx_48 g => ?_)
          refine lv_sipush (v := 600) hx hb dX14_goOver_54 (by decide) ?_
          refine lv_icmp_ne (tgt := 64) hx hb dX14_goOver_57 (by decide) (fun c_49 => ?_) (fun c_49 => ?_)
          · have fc_49 := neq_f c_49
            refine lv_iconst (v := 0) hx hb dX14_goOver_64 (by decide) ?_
            subst hQ
            exact W.zret (v := 0) hx hb hr (nar_z (bd_sub kb_0 (by decide) : bd 0 1 _).1 (bd_sub kb_0 (by decide) : bd 0 1 _).2) (fun t ht hW => ⟨⟨_, _, rfl, ⟨hG_44, (tOK.of hx_39 g 1 2 rfl rfl hrw), ⟨_, hG_42, (pfx.rf (r := r_)), rw_at g 7 8 rfl rfl hrw⟩, (bd_sub kb_0 (by decide)), trivial⟩, q3_of g hK ht hW⟩, g.2.2.1.F ht⟩) g.2.2.1.2.2 dX14_goOver_65
          · have fc_49 := eq_f c_49
            have b_50 : bd 600 600 x_48 := eqX fc_49 (bdT x_48) kb_600 (by decide)
            refine lv_iconst (v := 1) hx hb dX14_goOver_60 (by decide) ?_
            refine lv_goto (tgt := 65) hx hb dX14_goOver_61 (by decide) ?_
            have kb_1 : bd 1 1 (1 : Int32) := ⟨by decide, by decide⟩
            subst hQ
            exact W.zret (v := 1) hx hb hr (nar_z (bd_sub kb_1 (by decide) : bd 0 1 _).1 (bd_sub kb_1 (by decide) : bd 0 1 _).2) (fun t ht hW => ⟨⟨_, _, rfl, ⟨hG_44, (tOK.of hx_39 g 1 2 rfl rfl hrw), ⟨_, hG_42, (pfx.rf (r := r_)), rw_at g 7 8 rfl rfl hrw⟩, (bd_sub kb_1 (by decide)), trivial⟩, q3_of g hK ht hW⟩, g.2.2.1.F ht⟩) g.2.2.1.2.2 dX14_goOver_65
    · have fc_3 := eq_f c_3
      have b_51 : bd 600 0 t_ := eqX fc_3 bt_ kb_600 (by decide)
      exact bd_no b_51 (by decide)
set_option maxHeartbeats 4000000 in
set_option maxRecDepth 100000 in
theorem r_X14_goOver_B1 (l : Launch) (dC : Nat → ClassId) (dI : Nat → Nat → Nat) (L : List Nat) (kd : Nat → Nat) (tys : List (ClassId × FieldType)) (f0 : Nat → va_E) (sz : Nat) (hWT : WT L kd tys f0) (adK adV : Nat → Nat) (a0_ : Nat) (ma0_ : a0_ ∈ L) (ka0_ : kd a0_ = 14) (x1_ : Int32) (bx1_ : bd 0 7 x1_) (x2_ : Int32) (bx2_ : bd 1 1 x2_) (q0_ : Nat) (mq0_ : q0_ ∈ L) (kq0_ : kd q0_ = 12) (r_ : Int32) (br_ : bd 0 0 r_) (k_ : Int32) (bk_ : bd 0 3 k_) (t_ : Int32) (bt_ : bd 0 0 t_) (V_ : PV) (δ_ : Nat → Nat) (hW : wfP V_ δ_) (RW_ : RW) (hV : isV f0 q0_ V_) (hWW : isW f0 a0_ RW_) (hmo : mOK f0 q0_ V_) (ho : oOK f0 a0_ V_) (hrw : rwOK V_ RW_ r_ k_) (hall : allC RW_ k_ x1_) (hcl : okc V_ x1_) (hrm : r_.toInt ≤ x2_.toInt) (hfx : Fs L kd f0 [(14, 1, a0_, .ref q0_), (14, 51, a0_, .int r_), (14, 52, a0_, .int k_), (14, 58, a0_, .int t_)]) : Met l yX14_goOver (.code yX14_goOver cX14_goOver 15 (some .boolean) :: lw_g) ({ frames := 979, cells := 0, slots := 0, locals := 39172 }) (va_Pc [.ref a0_, .int x1_, .int x2_] (P3A (dC, dI) L tys f0 sz adK adV)) (va_Qi (fun (r : Int32) (f : Nat → va_E) => (oOK f a0_ V_ ∧ tOK f a0_ V_ ∧ (∃ R : RW, isW f a0_ R ∧ pfx RW_ R r_ k_ ∧ ∀ r k : Int32, fV f a0_ 51 = .int r → fV f a0_ 52 = .int k → rwOK V_ R r k) ∧ bd 0 1 r ∧ True)) (Q3 (dC, dI) L kd tys [(14, 30), (14, 31), (14, 32), (14, 33), (14, 34), (14, 35), (14, 36), (14, 37), (14, 38), (14, 39), (14, 40), (14, 45), (14, 51), (14, 52), (14, 53), (14, 55), (14, 58), (14, 59), (14, 61), (14, 65), (14, 66)] [200, 215, 216, 217, 218, 219, 220, 221, 222, 223, 224, 225, 226, 227, 228, 229, 230, 231, 232] f0 sz) (pA L sz)) 0 0 (pA L sz) := by
  refine Met.ofW (cc := cX14_goOver) (maxL := 15) (ret := (some .boolean)) (by decide) rfl ?_
  intro p e s m args below meth c s₁ B hml hv
  obtain ⟨rfl, ⟨hsz, hP, hK, hD0⟩, hAm⟩ := hv
  have hx := B.exec
  have hb := B.bytes
  have hr := B.returns
  have hts := atoms_spec (ws := (.code yX14_goOver cX14_goOver 15 (some .boolean) :: lw_g)) B.pre
  have hown : s.vm.findClass RX14 = some m.cls := findClass_of_methodNamed B.named
  have hlocks := B.notSynchronized
  subst hsz
  have g : G3 (dC, dI) L kd tys s f0 [(14, 30), (14, 31), (14, 32), (14, 33), (14, 34), (14, 35), (14, 36), (14, 37), (14, 38), (14, 39), (14, 40), (14, 45), (14, 51), (14, 52), (14, 53), (14, 55), (14, 58), (14, 59), (14, 61), (14, 65), (14, 66)] [200, 215, 216, 217, 218, 219, 220, 221, 222, 223, 224, 225, 226, 227, 228, 229, 230, 231, 232] f0 s.heap [] [(14, 1, a0_, .ref q0_), (14, 51, a0_, .int r_), (14, 52, a0_, .int k_), (14, 58, a0_, .int t_)] := G3.start hP hD0 hWT hfx
  have hl := lv_entry ([.ref a0_, .int x1_, .int x2_]) (n := 15) (Nat.le_of_ble_eq_true rfl)
  rw [lg_entry_eq]
  generalize (lg_sl ([.ref a0_, .int x1_, .int x2_]) ++ List.replicate (15 - (lg_sl ([.ref a0_, .int x1_, .int x2_])).length) Slot.unset).toArray = ls at hl ⊢
  have hl : lv_has ls 15 [(0, .ref a0_), (1, .int x1_), (2, .int x2_)] := hl
  refine W_q (fun Q hQ => ?_)
  refine lv_aload_n hx hb dX14_goOver_0 rfl (lv_at hl 0 rfl) ?_
  refine g_getk (C := RX14) (T := TX14) (N := 67) hx hb hts (mc_ inX14) hown hK g rfl 51 (by decide) rfl (hts _ (List.mem_cons_of_mem _ t_2197)) (fun _ h9 => h9) 1 rfl dX14_goOver_1 ?_
  refine lv_iload_n hx hb dX14_goOver_4 rfl (lv_at hl 2 rfl) ?_
  refine lv_icmp_ne (tgt := 66) hx hb dX14_goOver_5 (by decide) (fun c_1 => ?_) (fun c_1 => ?_)
  · have fc_1 := neq_f c_1
    refine lv_aload_n hx hb dX14_goOver_66 rfl (lv_at hl 0 rfl) ?_
    refine g_getk (C := RX14) (T := TX14) (N := 67) hx hb hts (mc_ inX14) hown hK g rfl 51 (by decide) rfl (hts _ (List.mem_cons_of_mem _ t_2197)) (fun _ h9 => h9) 1 rfl dX14_goOver_67 ?_
    have kb_0 : bd 0 0 (0 : Int32) := ⟨by decide, by decide⟩
    refine lv_if_le (tgt := 83) hx hb dX14_goOver_70 (by decide) (fun c_2 => ?_) (fun c_2 => ?_)
    · have fc_2 := le_f c_2
      refine lv_aload_n hx hb dX14_goOver_83 rfl (lv_at hl 0 rfl) ?_
      refine g_getk (C := RX14) (T := TX14) (N := 67) hx hb hts (mc_ inX14) hown hK g rfl 51 (by decide) rfl (hts _ (List.mem_cons_of_mem _ t_2197)) (fun _ h9 => h9) 1 rfl dX14_goOver_84 ?_
      refine lv_if_ne (tgt := 102) hx hb dX14_goOver_87 (by decide) (fun c_3 => ?_) (fun c_3 => ?_)
      · have fc_3 := neq_f c_3
        have b_4 : bd 1 (-1) r_ := neX fc_3 br_ kb_0 (by decide)
        exact bd_no b_4 (by decide)
      · have fc_3 := eq_f c_3
        refine lv_aload_n hx hb dX14_goOver_90 rfl (lv_at hl 0 rfl) ?_
        refine lv_iload_n hx hb dX14_goOver_91 rfl (lv_at hl 1 rfl) ?_
        have b_5 : bd 0 0 k_ := ⟨bk_.1, (by rw [rwOK.z0 hrw (by have h9_0 := bk_; unfold bd at h9_0; have h9_1 := br_; unfold bd at h9_1; have h9_2 := bt_; unfold bd at h9_2; have h9_3 := bx1_; unfold bd at h9_3; have h9_4 := bx2_; unfold bd at h9_4; have h8_0 := kb_0; unfold bd at h8_0; omega)]; decide)⟩
        have go_ := g
        refine g_callv (va_runV (As := [.int x1_]) (rest := []) ⟨hx, hb, hml, hown, hts⟩ (r_X14_addMake l dC dI L kd tys f0 s.heap.size g.2.2.2.1 a0_ ma0_ ka0_ x1_ bx1_ q0_ mq0_ kq0_ r_ (bd_sub br_ (by decide)) k_ (bd_sub b_5 (by decide)) V_ δ_ hW RW_ hWW hV hrw hcl (g.fcts [0, 1, 2] rfl)) (cwV 1 hts (gV_ t_2594 t_2596 t_138 t_198 t_2597) rfl rfl rfl (by decide +kernel) ⟨(Nat.le_of_ble_eq_true rfl), (Nat.le_of_ble_eq_true rfl)⟩) (pre3V g hK ma0_ ka0_ (by decide) (q := (RX14, TX14, 67)) rfl) rfl rfl hl.1 rfl (lv_room (Nat.le_of_ble_eq_true rfl)) dX14_goOver_92 ⟨(Nat.le_of_ble_eq_true rfl), (Nat.le_of_ble_eq_true rfl)⟩) g hK (by decide) (by decide) (fx' := [(14, 1, a0_, .ref q0_), (14, 58, a0_, .int t_)]) rfl (fun fr_6 H locs hp hMr_6 g => ?_)
        obtain ⟨hx_7, hx_8, x_9, ⟨h_10, rh_10⟩, x_11, ⟨h_12, rh_12⟩, hF_13⟩ := hp
        have hG_14 := isV.frame hMr_6 go_.2.2.2.1 mq0_ kq0_ (by decide) (by decide) hV
        have hG_15 := mOK.frame hMr_6 go_.2.2.2.1 mq0_ kq0_ (by decide) (by decide) hmo
        have hG_16 := oOK.frame hMr_6 go_.2.2.2.1 ma0_ ka0_ (by decide) (by decide) ho
        have g := g.more hF_13
        refine lv_aload_n hx hb dX14_goOver_95 rfl (lv_at hl 0 rfl) ?_
        refine lv_iload_n hx hb dX14_goOver_96 rfl (lv_at hl 1 rfl) ?_
        refine lv_iload_n hx hb dX14_goOver_97 rfl (lv_at hl 2 rfl) ?_
        have b_17 : bd 1 1 x_9 := ⟨(by have h9_0 := b_5; unfold bd at h9_0; have h9_1 := br_; unfold bd at h9_1; have h9_2 := bt_; unfold bd at h9_2; have h9_3 := bx1_; unfold bd at h9_3; have h9_4 := bx2_; unfold bd at h9_4; have h9_5 := h_12; unfold bd at h9_5; have h9_6 := h_10; unfold bd at h9_6; have h8_0 := kb_0; unfold bd at h8_0; omega), (by have h9_0 := b_5; unfold bd at h9_0; have h9_1 := br_; unfold bd at h9_1; have h9_2 := bt_; unfold bd at h9_2; have h9_3 := bx1_; unfold bd at h9_3; have h9_4 := bx2_; unfold bd at h9_4; have h9_5 := h_12; unfold bd at h9_5; have h9_6 := h_10; unfold bd at h9_6; have h8_0 := kb_0; unfold bd at h8_0; omega)⟩
        have go_ := g
        refine g_calli (va_runV (As := [.int x1_, .int x2_]) (rest := []) ⟨hx, hb, hml, hown, hts⟩ (r_X14_goOver_B2 l dC dI L kd tys fr_6 H.size g.2.2.2.1 adK adV a0_ ma0_ ka0_ x1_ bx1_ x2_ bx2_ q0_ mq0_ kq0_ x_9 b_17 x_11 (bd_sub h_12 (by decide)) t_ bt_ V_ δ_ hW (RW_.adM r_ k_ x1_) hG_14 hx_7 hG_15 hG_16 (hx_8.1 _ _ (by have h9_0 := b_5; unfold bd at h9_0; have h9_1 := br_; unfold bd at h9_1; have h9_2 := bt_; unfold bd at h9_2; have h9_3 := bx1_; unfold bd at h9_3; have h9_4 := bx2_; unfold bd at h9_4; have h9_5 := h_12; unfold bd at h9_5; have h9_6 := b_17; unfold bd at h9_6; have h8_0 := kb_0; unfold bd at h8_0; omega) (by have h9_0 := b_5; unfold bd at h9_0; have h9_1 := br_; unfold bd at h9_1; have h9_2 := bt_; unfold bd at h9_2; have h9_3 := bx1_; unfold bd at h9_3; have h9_4 := bx2_; unfold bd at h9_4; have h9_5 := h_12; unfold bd at h9_5; have h9_6 := b_17; unfold bd at h9_6; have h8_0 := kb_0; unfold bd at h8_0; omega)) ((hall.pf (pfx.rf (r := r_))).ad hx_8 (Or.inr ⟨rfl, adM_c⟩) (by have h9_0 := b_5; unfold bd at h9_0; have h9_1 := br_; unfold bd at h9_1; have h9_2 := bt_; unfold bd at h9_2; have h9_3 := bx1_; unfold bd at h9_3; have h9_4 := bx2_; unfold bd at h9_4; have h9_5 := h_12; unfold bd at h9_5; have h9_6 := b_17; unfold bd at h9_6; have h8_0 := kb_0; unfold bd at h8_0; omega) (by have h9_0 := b_5; unfold bd at h9_0; have h9_1 := br_; unfold bd at h9_1; have h9_2 := bt_; unfold bd at h9_2; have h9_3 := bx1_; unfold bd at h9_3; have h9_4 := bx2_; unfold bd at h9_4; have h9_5 := h_12; unfold bd at h9_5; have h9_6 := b_17; unfold bd at h9_6; have h8_0 := kb_0; unfold bd at h8_0; omega)) hcl (by have h9_0 := b_5; unfold bd at h9_0; have h9_1 := br_; unfold bd at h9_1; have h9_2 := bt_; unfold bd at h9_2; have h9_3 := bx1_; unfold bd at h9_3; have h9_4 := bx2_; unfold bd at h9_4; have h9_5 := h_12; unfold bd at h9_5; have h9_6 := b_17; unfold bd at h9_6; have h8_0 := kb_0; unfold bd at h8_0; omega) (g.fcts [2, 0, 1, 3] rfl)) (cwV 2 hts (gV_ t_2752 t_2754 t_172 t_198 t_2755) rfl rfl rfl (by decide +kernel) ⟨(Nat.le_of_ble_eq_true rfl), (Nat.le_of_ble_eq_true rfl)⟩) (pre3VA g hK hAm ma0_ ka0_ (by decide) (q := (RX14, TX14, 67)) rfl) rfl rfl hl.1 rfl (lv_room (Nat.le_of_ble_eq_true rfl)) dX14_goOver_98 ⟨(Nat.le_of_ble_eq_true rfl), (Nat.le_of_ble_eq_true rfl)⟩) g hK (by decide) (by decide) (fx' := [(14, 1, a0_, .ref q0_)]) rfl (fun r_18 fr_18 H locs hp hMr_18 g => ?_)
        obtain ⟨hG_19, hG_20, hx_21, h_22, -⟩ := hp
        have hG_23 := isV.frame hMr_18 go_.2.2.2.1 mq0_ kq0_ (by decide) (by decide) hG_14
        have hG_24 := mOK.frame hMr_18 go_.2.2.2.1 mq0_ kq0_ (by decide) (by decide) hG_15
        obtain ⟨R_25, hR_26, hp_27, hr_28⟩ := hx_21
        have hpf_29 := (((pfx.rf (r := r_)).tr hx_8.2 (Int.le_refl _) (Int.le_refl _)).tr hp_27 (by have h9_0 := b_5; unfold bd at h9_0; have h9_1 := br_; unfold bd at h9_1; have h9_2 := h_22; unfold bd at h9_2; have h9_3 := bt_; unfold bd at h9_3; have h9_4 := bx1_; unfold bd at h9_4; have h9_5 := bx2_; unfold bd at h9_5; have h9_6 := h_12; unfold bd at h9_6; have h9_7 := b_17; unfold bd at h9_7; have h8_0 := kb_0; unfold bd at h8_0; omega) (by have h9_0 := b_5; unfold bd at h9_0; have h9_1 := br_; unfold bd at h9_1; have h9_2 := h_22; unfold bd at h9_2; have h9_3 := bt_; unfold bd at h9_3; have h9_4 := bx1_; unfold bd at h9_4; have h9_5 := bx2_; unfold bd at h9_5; have h9_6 := h_12; unfold bd at h9_6; have h9_7 := b_17; unfold bd at h9_7; have h8_0 := kb_0; unfold bd at h8_0; omega))
        subst hQ
        exact W.zret (v := r_18) hx hb hr (nar_z h_22.1 h_22.2) (fun t ht hW => ⟨⟨_, _, rfl, ⟨hG_19, hG_20, ⟨_, hR_26, hpf_29, hr_28⟩, h_22, trivial⟩, q3_of g hK ht hW⟩, g.2.2.1.F ht⟩) g.2.2.1.2.2 dX14_goOver_101
    · have fc_2 := nle_f c_2
      have b_30 : bd 0 (-1) (0 : Int32) := ltL fc_2 kb_0 br_ (by decide)
      exact bd_no (eqX rfl b_30 kb_0 (lo := 0) (hi := (-1)) (by decide)) (by decide)
  · have fc_1 := eq_f c_1
    have b_31 : bd 1 0 r_ := eqX fc_1 br_ bx2_ (by decide)
    exact bd_no b_31 (by decide)
set_option maxHeartbeats 4000000 in
set_option maxRecDepth 100000 in
theorem r_X14_takeRow (l : Launch) (dC : Nat → ClassId) (dI : Nat → Nat → Nat) (L : List Nat) (kd : Nat → Nat) (tys : List (ClassId × FieldType)) (f0 : Nat → va_E) (sz : Nat) (hWT : WT L kd tys f0) (a0_ : Nat) (ma0_ : a0_ ∈ L) (ka0_ : kd a0_ = 14) (q0_ : Nat) (mq0_ : q0_ ∈ L) (kq0_ : kd q0_ = 12) (tr_ : Int32) (btr_ : bd 0 10 tr_) (tk_ : Int32) (btk_ : bd 0 3 tk_) (V_ : PV) (δ_ : Nat → Nat) (hW : wfP V_ δ_) (TW_ : RW) (hGTa0_ : isT f0 a0_ TW_) (hGVq0_ : isV f0 q0_ V_) (htw : rwOK V_ TW_ tr_ tk_) (hfx : Fs L kd f0 [(14, 1, a0_, .ref q0_), (14, 65, a0_, .int tr_), (14, 66, a0_, .int tk_)]) : Met l yX14_takeRow (.code yX14_takeRow cX14_takeRow 2 none :: lw_g) ({ frames := 1, cells := 0, slots := 0, locals := 25 }) (va_Pc [.ref a0_] (P3 (dC, dI) L tys f0 sz)) (va_Qv (fun (f : Nat → va_E) => ((∃ R : RW, isW f a0_ R ∧ pfx TW_ R tr_ tk_ ∧ ∀ r k : Int32, r.toInt = tr_.toInt → k.toInt = tk_.toInt → rwOK V_ R r k) ∧ ∃ z0_ : Int32, (bd 0 10 z0_ ∧ z0_.toInt = tr_.toInt) ∧ ∃ z1_ : Int32, (bd 0 3 z1_ ∧ z1_.toInt = tk_.toInt) ∧ Fs L kd f [(14, 51, a0_, .int z0_), (14, 52, a0_, .int z1_)])) (Q3 (dC, dI) L kd tys [(14, 51), (14, 52)] [222, 223, 224, 225, 226, 227] f0 sz) (pA L sz)) 0 0 (pA L sz) := by
  refine Met.ofW (cc := cX14_takeRow) (maxL := 2) (ret := none) (by decide) rfl ?_
  intro p e s m args below meth c s₁ B hml hv
  obtain ⟨rfl, hsz, hP, hK, hD0⟩ := hv
  have hx := B.exec
  have hb := B.bytes
  have hr := B.returns
  have hts := atoms_spec (ws := (.code yX14_takeRow cX14_takeRow 2 none :: lw_g)) B.pre
  have hown : s.vm.findClass RX14 = some m.cls := findClass_of_methodNamed B.named
  have hlocks := B.notSynchronized
  subst hsz
  have g : G3 (dC, dI) L kd tys s f0 [(14, 51), (14, 52)] [222, 223, 224, 225, 226, 227] f0 s.heap [] [(14, 1, a0_, .ref q0_), (14, 65, a0_, .int tr_), (14, 66, a0_, .int tk_)] := G3.start hP hD0 hWT hfx
  have hl := lv_entry ([.ref a0_]) (n := 2) (Nat.le_of_ble_eq_true rfl)
  rw [lg_entry_eq]
  generalize (lg_sl ([.ref a0_]) ++ List.replicate (2 - (lg_sl ([.ref a0_])).length) Slot.unset).toArray = ls at hl ⊢
  have hl : lv_has ls 2 [(0, .ref a0_)] := hl
  refine W_q (fun Q hQ => ?_)
  refine lv_aload_n hx hb dX14_takeRow_0 rfl (lv_at hl 0 rfl) ?_
  refine lv_iconst (v := 0) hx hb dX14_takeRow_1 (by decide) ?_
  have kb_0 : bd 0 0 (0 : Int32) := ⟨by decide, by decide⟩
  have go_ := g
  refine g_put (C := RX14) (T := TX14) (N := 67) hx hb hts (mc_ inX14) tyX14 tyX14_ok nmX14 hown hK g ma0_ ka0_ (by decide) rfl 51 (by decide) (hts _ (List.mem_cons_of_mem _ t_2197)) (fun _ h9 => h9) rfl rfl (okV_i (bd_sub kb_0 (by decide))) rfl rfl (by decide) (Or.inr (Or.inl (by decide))) (fx' := [(14, 1, a0_, .ref q0_), (14, 65, a0_, .int tr_), (14, 66, a0_, .int tk_)]) rfl dX14_takeRow_2 (fun f H locs hM_1 g => ?_)
  have hG_2 := isT.frame hM_1 go_.2.2.2.1 ma0_ ka0_ (by decide) (by decide) hGTa0_
  have hG_3 := isV.frame hM_1 go_.2.2.2.1 mq0_ kq0_ (by decide) (by decide) hGVq0_
  have hG_4 := isW.frame hM_1 go_.2.2.2.1 ma0_ ka0_ (by decide) (by decide) isW.refl
  refine lv_aload_n hx hb dX14_takeRow_5 rfl (lv_at hl 0 rfl) ?_
  refine lv_iconst (v := 0) hx hb dX14_takeRow_6 (by decide) ?_
  have go_ := g
  refine g_put (C := RX14) (T := TX14) (N := 67) hx hb hts (mc_ inX14) tyX14 tyX14_ok nmX14 hown hK g ma0_ ka0_ (by decide) rfl 52 (by decide) (hts _ (List.mem_cons_of_mem _ t_2198)) (fun _ h9 => h9) rfl rfl (okV_i (bd_sub kb_0 (by decide))) rfl rfl (by decide) (Or.inr (Or.inl (by decide))) (fx' := [(14, 51, a0_, .int 0), (14, 1, a0_, .ref q0_), (14, 65, a0_, .int tr_), (14, 66, a0_, .int tk_)]) rfl dX14_takeRow_7 (fun f H locs hM_5 g => ?_)
  have hG_6 := isT.frame hM_5 go_.2.2.2.1 ma0_ ka0_ (by decide) (by decide) hG_2
  have hG_7 := isV.frame hM_5 go_.2.2.2.1 mq0_ kq0_ (by decide) (by decide) hG_3
  have hG_8 := isW.frame hM_5 go_.2.2.2.1 ma0_ ka0_ (by decide) (by decide) hG_4
  refine lv_iconst (v := 0) hx hb dX14_takeRow_10 (by decide) ?_
  refine lv_istore_n (lv' := [(1, .int 0), (0, .ref a0_)]) hx hb dX14_takeRow_11 rfl hl (by decide) rfl (fun ls hl => ?_)
  have loop_9 : ∀ (n : Nat) (v12_1 : Int32) (w12_14_52_a0_ : Int32) (w12_14_51_a0_ : Int32), bd 0 10 v12_1 → bd 0 3 w12_14_52_a0_ → bd 0 10 w12_14_51_a0_ → (10 - v12_1.toInt < (n : Int)) → ∀ (f : Nat → va_E) (H : Heap) (locs : List Loc) (ls : Array Slot), G3 (dC, dI) L kd tys s f0 [(14, 51), (14, 52)] [222, 223, 224, 225, 226, 227] f H locs [(14, 52, a0_, .int w12_14_52_a0_), (14, 51, a0_, .int w12_14_51_a0_), (14, 1, a0_, .ref q0_), (14, 65, a0_, .int tr_), (14, 66, a0_, .int tk_)] → isT f a0_ TW_ → isV f q0_ V_ → (∃ R : RW, isW f a0_ R ∧ rwOK V_ R w12_14_51_a0_ w12_14_52_a0_ ∧ pfx TW_ R w12_14_51_a0_ w12_14_52_a0_ ∧ w12_14_51_a0_.toInt = v12_1.toInt ∧ v12_1.toInt ≤ tr_.toInt) → lv_has ls 2 [(1, .int v12_1), (0, .ref a0_)] → W p l e ({ frames := 1, cells := 0, slots := 0, locals := 25 } : Room) s m [.ref a0_].toArray below meth c H locs 0 0 Q (F0 m 12 ls []) := by
    intro n12
    induction n12 with
    | zero =>
      intro v12_1 w12_14_52_a0_ w12_14_51_a0_ bv12_1 bw12_14_52_a0_ bw12_14_51_a0_ hm12 f H locs ls g hG12_T_a0_ hG12_V_q0_ ⟨R12, hW12, hI12, hp12, hJ12, hK12⟩ hl
      exact absurd hm12 (by have h9_v12_1 := bv12_1; unfold bd at h9_v12_1; have h9_w12_14_52_a0_ := bw12_14_52_a0_; unfold bd at h9_w12_14_52_a0_; have h9_w12_14_51_a0_ := bw12_14_51_a0_; unfold bd at h9_w12_14_51_a0_; omega)
    | succ n12 ih12 =>
      intro v12_1 w12_14_52_a0_ w12_14_51_a0_ bv12_1 bw12_14_52_a0_ bw12_14_51_a0_ hm12 f H locs ls g hG12_T_a0_ hG12_V_q0_ ⟨R12, hW12, hI12, hp12, hJ12, hK12⟩ hl
      refine lv_iload_n hx hb dX14_takeRow_12 rfl (lv_at hl 0 rfl) ?_
      refine lv_aload_n hx hb dX14_takeRow_13 rfl (lv_at hl 1 rfl) ?_
      refine g_getk (C := RX14) (T := TX14) (N := 67) hx hb hts (mc_ inX14) hown hK g rfl 65 (by decide) rfl (hts _ (List.mem_cons_of_mem _ t_2211)) (fun _ h9 => h9) 3 rfl dX14_takeRow_14 ?_
      refine lv_icmp_ge (tgt := 95) hx hb dX14_takeRow_17 (by decide) (fun c_10 => ?_) (fun c_10 => ?_)
      · have fc_10 := le_f c_10
        have ht_11 := tk_end htw hI12 hp12 (by have h9_0 := btk_; unfold bd at h9_0; have h9_1 := btr_; unfold bd at h9_1; have h9_2 := bv12_1; unfold bd at h9_2; have h9_3 := bw12_14_51_a0_; unfold bd at h9_3; have h9_4 := bw12_14_52_a0_; unfold bd at h9_4; have h8_0 := kb_0; unfold bd at h8_0; omega) (by have h9_0 := btk_; unfold bd at h9_0; have h9_1 := btr_; unfold bd at h9_1; have h9_2 := bv12_1; unfold bd at h9_2; have h9_3 := bw12_14_51_a0_; unfold bd at h9_3; have h9_4 := bw12_14_52_a0_; unfold bd at h9_4; have h8_0 := kb_0; unfold bd at h8_0; omega)
        have ht_11e := ht_11.1
        subst hQ
        exact W.vret hx hb hr (fun t ht hW => ⟨⟨_, rfl, ⟨⟨_, hW12, ht_11.2.1, ht_11.2.2⟩, w12_14_51_a0_, ⟨bw12_14_51_a0_, (by have h9_0 := btk_; unfold bd at h9_0; have h9_1 := btr_; unfold bd at h9_1; have h9_2 := bv12_1; unfold bd at h9_2; have h9_3 := bw12_14_51_a0_; unfold bd at h9_3; have h9_4 := bw12_14_52_a0_; unfold bd at h9_4; have h8_0 := kb_0; unfold bd at h8_0; omega)⟩, w12_14_52_a0_, ⟨bw12_14_52_a0_, (by have h9_0 := btk_; unfold bd at h9_0; have h9_1 := btr_; unfold bd at h9_1; have h9_2 := bv12_1; unfold bd at h9_2; have h9_3 := bw12_14_51_a0_; unfold bd at h9_3; have h9_4 := bw12_14_52_a0_; unfold bd at h9_4; have h8_0 := kb_0; unfold bd at h8_0; omega)⟩, (g.fcts [1, 0] rfl)⟩, q3_of g hK ht hW⟩, g.2.2.1.F ht⟩) g.2.2.1.2.2 dX14_takeRow_95
      · have fc_10 := nle_f c_10
        have b_12 : bd 0 9 v12_1 := ltL fc_10 bv12_1 btr_ (by decide)
        have b_13 : bd 1 10 tr_ := ltR fc_10 bv12_1 btr_ (by decide)
        refine lv_aload_n hx hb dX14_takeRow_20 rfl (lv_at hl 1 rfl) ?_
        refine g_getr (K := 231) (C := RX14) (T := TX14) (N := 67) hx hb hts (mc_ inX14) hown hK g ma0_ ka0_ (by decide) rfl 63 (by decide) rfl (hts _ (List.mem_cons_of_mem _ t_2209)) (fun _ h9 => h9) rfl dX14_takeRow_21 (fun a_14 ma_14 ka_14 g => ?_)
        refine lv_iload_n hx hb dX14_takeRow_24 rfl (lv_at hl 0 rfl) ?_
        refine g_iald hx hb hK g ma_14 ka_14 (by decide) rfl (in_bd b_12 (by decide)) dX14_takeRow_25 (fun x_15 bx_15 cx_15 => ?_)
        have vx_15 := hG12_T_a0_.at63 g 0 rfl (by have h9_0 := btk_; unfold bd at h9_0; have h9_1 := b_13; unfold bd at h9_1; have h9_2 := b_12; unfold bd at h9_2; have h9_3 := bw12_14_51_a0_; unfold bd at h9_3; have h9_4 := bw12_14_52_a0_; unfold bd at h9_4; have h9_5 := bx_15; unfold bd at h9_5; have h8_0 := kb_0; unfold bd at h8_0; omega) cx_15
        refine lv_iconst (v := (-1)) hx hb dX14_takeRow_26 (by decide) ?_
        have kb_m1 : bd (-1) (-1) ((-1) : Int32) := ⟨by decide, by decide⟩
        refine lv_icmp_ne (tgt := 45) hx hb dX14_takeRow_27 (by decide) (fun c_16 => ?_) (fun c_16 => ?_)
        · have fc_16 := neq_f c_16
          have b_17 : bd 0 11 x_15 := neX fc_16 bx_15 kb_m1 (by decide)
          refine lv_aload_n hx hb dX14_takeRow_45 rfl (lv_at hl 1 rfl) ?_
          refine lv_aload_n hx hb dX14_takeRow_46 rfl (lv_at hl 1 rfl) ?_
          refine g_getr (K := 230) (C := RX14) (T := TX14) (N := 67) hx hb hts (mc_ inX14) hown hK g ma0_ ka0_ (by decide) rfl 62 (by decide) rfl (hts _ (List.mem_cons_of_mem _ t_2208)) (fun _ h9 => h9) rfl dX14_takeRow_47 (fun a_18 ma_18 ka_18 g => ?_)
          refine lv_iload_n hx hb dX14_takeRow_50 rfl (lv_at hl 0 rfl) ?_
          refine g_iald hx hb hK g ma_18 ka_18 (by decide) rfl (in_bd b_12 (by decide)) dX14_takeRow_51 (fun x_19 bx_19 cx_19 => ?_)
          have vx_19 := hG12_T_a0_.at62 g 0 rfl (by have h9_0 := btk_; unfold bd at h9_0; have h9_1 := b_13; unfold bd at h9_1; have h9_2 := b_12; unfold bd at h9_2; have h9_3 := bw12_14_51_a0_; unfold bd at h9_3; have h9_4 := bw12_14_52_a0_; unfold bd at h9_4; have h9_5 := b_17; unfold bd at h9_5; have h9_6 := bx_19; unfold bd at h9_6; have h8_0 := kb_0; unfold bd at h8_0; have h8_1 := kb_m1; unfold bd at h8_1; omega) cx_19
          refine lv_aload_n hx hb dX14_takeRow_52 rfl (lv_at hl 1 rfl) ?_
          refine g_getk (C := RX14) (T := TX14) (N := 67) hx hb hts (mc_ inX14) hown hK g rfl 63 (by decide) rfl (hts _ (List.mem_cons_of_mem _ t_2209)) (fun _ h9 => h9) 1 rfl dX14_takeRow_53 ?_
          refine lv_iload_n hx hb dX14_takeRow_56 rfl (lv_at hl 0 rfl) ?_
          refine g_iald hx hb hK g ma_14 ka_14 (by decide) rfl (in_bd b_12 (by decide)) dX14_takeRow_57 (fun x_20 bx_20 cx_20 => ?_)
          obtain rfl : x_15 = x_20 := el_same cx_15 cx_20 rfl
          refine lv_aload_n hx hb dX14_takeRow_58 rfl (lv_at hl 1 rfl) ?_
          refine g_getr (K := 232) (C := RX14) (T := TX14) (N := 67) hx hb hts (mc_ inX14) hown hK g ma0_ ka0_ (by decide) rfl 64 (by decide) rfl (hts _ (List.mem_cons_of_mem _ t_2210)) (fun _ h9 => h9) rfl dX14_takeRow_59 (fun a_21 ma_21 ka_21 g => ?_)
          refine lv_iconst (v := 3) hx hb dX14_takeRow_62 (by decide) ?_
          refine lv_iload_n hx hb dX14_takeRow_63 rfl (lv_at hl 0 rfl) ?_
          refine lv_imul hx hb dX14_takeRow_64 ?_
          refine lv_topi (fun y_22 ey_22 => ?_)
          have ty_22 := cmul_bd ey_22 (c := 3) (by decide) b_12 (by decide)
          have b_23 : bd 0 27 y_22 := mulc_rg ty_22 b_12 (by decide)
          refine g_iald hx hb hK g ma_21 ka_21 (by decide) rfl (in_bd b_23 (by decide)) dX14_takeRow_65 (fun x_24 bx_24 cx_24 => ?_)
          have vx_24 := hG12_T_a0_.at64 g 0 rfl (by have h9_0 := btk_; unfold bd at h9_0; have h9_1 := b_13; unfold bd at h9_1; have h9_2 := b_12; unfold bd at h9_2; have h9_3 := bw12_14_51_a0_; unfold bd at h9_3; have h9_4 := bw12_14_52_a0_; unfold bd at h9_4; have h9_5 := b_17; unfold bd at h9_5; have h9_6 := bx_19; unfold bd at h9_6; have h9_7 := bx_20; unfold bd at h9_7; have h9_8 := b_23; unfold bd at h9_8; have h8_0 := kb_0; unfold bd at h8_0; have h8_1 := kb_m1; unfold bd at h8_1; omega) cx_24
          refine lv_aload_n hx hb dX14_takeRow_66 rfl (lv_at hl 1 rfl) ?_
          refine g_getk (C := RX14) (T := TX14) (N := 67) hx hb hts (mc_ inX14) hown hK g rfl 64 (by decide) rfl (hts _ (List.mem_cons_of_mem _ t_2210)) (fun _ h9 => h9) 0 rfl dX14_takeRow_67 ?_
          refine lv_iconst (v := 3) hx hb dX14_takeRow_70 (by decide) ?_
          refine lv_iload_n hx hb dX14_takeRow_71 rfl (lv_at hl 0 rfl) ?_
          refine lv_imul hx hb dX14_takeRow_72 ?_
          refine lv_topi (fun y_25 ey_25 => ?_)
          obtain rfl : y_22 = y_25 := ey_22.trans ey_25.symm
          refine lv_iconst (v := 1) hx hb dX14_takeRow_73 (by decide) ?_
          have kb_1 : bd 1 1 (1 : Int32) := ⟨by decide, by decide⟩
          refine lv_iadd hx hb dX14_takeRow_74 ?_
          refine lv_topi (fun y_26 ey_26 => ?_)
          have ty_26 := add_bd ey_26 b_23 kb_1 (by decide)
          have b_27 : bd 1 28 y_26 := add_rg ty_26 b_23 kb_1 (by decide)
          refine g_iald hx hb hK g ma_21 ka_21 (by decide) rfl (in_bd b_27 (by decide)) dX14_takeRow_75 (fun x_28 bx_28 cx_28 => ?_)
          have vx_28 := hG12_T_a0_.at64 g 0 rfl (by have h9_0 := btk_; unfold bd at h9_0; have h9_1 := b_13; unfold bd at h9_1; have h9_2 := b_12; unfold bd at h9_2; have h9_3 := bw12_14_51_a0_; unfold bd at h9_3; have h9_4 := bw12_14_52_a0_; unfold bd at h9_4; have h9_5 := b_17; unfold bd at h9_5; have h9_6 := bx_19; unfold bd at h9_6; have h9_7 := bx_20; unfold bd at h9_7; have h9_8 := b_23; unfold bd at h9_8; have h9_9 := b_27; unfold bd at h9_9; have h8_0 := kb_0; unfold bd at h8_0; have h8_1 := kb_1; unfold bd at h8_1; have h8_2 := kb_m1; unfold bd at h8_2; omega) cx_28
          refine lv_aload_n hx hb dX14_takeRow_76 rfl (lv_at hl 1 rfl) ?_
          refine g_getk (C := RX14) (T := TX14) (N := 67) hx hb hts (mc_ inX14) hown hK g rfl 64 (by decide) rfl (hts _ (List.mem_cons_of_mem _ t_2210)) (fun _ h9 => h9) 0 rfl dX14_takeRow_77 ?_
          refine lv_iconst (v := 3) hx hb dX14_takeRow_80 (by decide) ?_
          refine lv_iload_n hx hb dX14_takeRow_81 rfl (lv_at hl 0 rfl) ?_
          refine lv_imul hx hb dX14_takeRow_82 ?_
          refine lv_topi (fun y_29 ey_29 => ?_)
          obtain rfl : y_22 = y_29 := ey_22.trans ey_29.symm
          refine lv_iconst (v := 2) hx hb dX14_takeRow_83 (by decide) ?_
          have kb_2 : bd 2 2 (2 : Int32) := ⟨by decide, by decide⟩
          refine lv_iadd hx hb dX14_takeRow_84 ?_
          refine lv_topi (fun y_30 ey_30 => ?_)
          have ty_30 := add_bd ey_30 b_23 kb_2 (by decide)
          have b_31 : bd 2 29 y_30 := add_rg ty_30 b_23 kb_2 (by decide)
          refine g_iald hx hb hK g ma_21 ka_21 (by decide) rfl (in_bd b_31 (by decide)) dX14_takeRow_85 (fun x_32 bx_32 cx_32 => ?_)
          have vx_32 := hG12_T_a0_.at64 g 0 rfl (by have h9_0 := btk_; unfold bd at h9_0; have h9_1 := b_13; unfold bd at h9_1; have h9_2 := b_12; unfold bd at h9_2; have h9_3 := bw12_14_51_a0_; unfold bd at h9_3; have h9_4 := bw12_14_52_a0_; unfold bd at h9_4; have h9_5 := b_17; unfold bd at h9_5; have h9_6 := bx_19; unfold bd at h9_6; have h9_7 := bx_20; unfold bd at h9_7; have h9_8 := b_23; unfold bd at h9_8; have h9_9 := b_27; unfold bd at h9_9; have h9_10 := b_31; unfold bd at h9_10; have h8_0 := kb_0; unfold bd at h8_0; have h8_1 := kb_1; unfold bd at h8_1; have h8_2 := kb_2; unfold bd at h8_2; have h8_3 := kb_m1; unfold bd at h8_3; omega) cx_32
          have hto_33 := tk_ok2 (Int32.toInt_inj.mp hJ12) htw hI12 hp12 b_12.1 fc_10 (by rw [← vx_15]; exact fc_16)
          have b_34 : bd 0 11 x_15 := ⟨(by rw [vx_15]; exact hto_33.2.2), b_17.2⟩
          have b_35 : bd 0 9 w12_14_51_a0_ := ⟨bw12_14_51_a0_.1, (by have h9_0 := btk_; unfold bd at h9_0; have h9_1 := b_13; unfold bd at h9_1; have h9_2 := b_12; unfold bd at h9_2; have h9_3 := bw12_14_51_a0_; unfold bd at h9_3; have h9_4 := bw12_14_52_a0_; unfold bd at h9_4; have h9_5 := b_34; unfold bd at h9_5; have h9_6 := bx_19; unfold bd at h9_6; have h9_7 := bx_20; unfold bd at h9_7; have h9_8 := b_23; unfold bd at h9_8; have h9_9 := b_27; unfold bd at h9_9; have h9_10 := b_31; unfold bd at h9_10; have h8_0 := kb_0; unfold bd at h8_0; have h8_1 := kb_1; unfold bd at h8_1; have h8_2 := kb_2; unfold bd at h8_2; have h8_3 := kb_m1; unfold bd at h8_3; omega)⟩
          have go_ := g
          refine g_callv (va_runV (As := [.int x_19, .int x_15, .int x_24, .int x_28, .int x_32]) (rest := []) ⟨hx, hb, hml, hown, hts⟩ (r_X14_addCall l dC dI L kd tys f H.size g.2.2.2.1 a0_ ma0_ ka0_ x_19 bx_19 x_15 b_34 x_24 x_28 x_32 q0_ mq0_ kq0_ w12_14_51_a0_ b_35 w12_14_52_a0_ bw12_14_52_a0_ V_ δ_ hW R12 hW12 hG12_V_q0_ hI12 (by rw [vx_19]; exact hto_33.1) (by rw [vx_19, vx_15]; exact hto_33.2.1) (g.fcts [5, 4, 3] rfl)) (cwV 5 hts (gV_ t_2606 t_2608 t_140 t_198 t_2609) rfl rfl rfl (by decide +kernel) ⟨(Nat.le_of_ble_eq_true rfl), (Nat.le_of_ble_eq_true rfl)⟩) (pre3V g hK ma0_ ka0_ (by decide) (q := (RX14, TX14, 67)) rfl) rfl rfl hl.1 rfl (lv_room (Nat.le_of_ble_eq_true rfl)) dX14_takeRow_86 ⟨(Nat.le_of_ble_eq_true rfl), (Nat.le_of_ble_eq_true rfl)⟩) g hK (by decide) (by decide) (fx' := [(14, 64, a0_, .ref a_21), (14, 62, a0_, .ref a_18), (14, 63, a0_, .ref a_14), (14, 52, a0_, .int w12_14_52_a0_), (14, 1, a0_, .ref q0_), (14, 65, a0_, .int tr_), (14, 66, a0_, .int tk_)]) rfl (fun fr_36 H locs hp hMr_36 g => ?_)
          obtain ⟨hx_37, hx_38, x_39, ⟨h_40, rh_40⟩, hF_41⟩ := hp
          have hG_42 := isT.frame hMr_36 go_.2.2.2.1 ma0_ ka0_ (by decide) (by decide) hG12_T_a0_
          have hG_43 := isV.frame hMr_36 go_.2.2.2.1 mq0_ kq0_ (by decide) (by decide) hG12_V_q0_
          have g := g.more hF_41
          obtain ⟨y_44, ey_44⟩ : ∃ z : Int32, z = v12_1 + 1 := ⟨_, rfl⟩
          refine lv_iinc (v := y_44) (lv' := [(1, .int y_44), (0, .ref a0_)]) hx hb dX14_takeRow_89 hl (k := 0) rfl (by rw [ey_44]; rfl) (by decide) rfl (fun ls hl => ?_)
          have ty_44 := add_bd ey_44 b_12 kb_1 (by decide)
          have b_45 : bd 1 10 y_44 := add_rg ty_44 b_12 kb_1 (by decide)
          refine lv_goto (tgt := 12) hx hb dX14_takeRow_92 (by decide) ?_
          have hl9 := lv_sub hl [0, 1] (by rfl : lv_pick [(1, .int y_44), (0, .ref a0_)] [0, 1] = [(1, .int y_44), (0, .ref a0_)])
          have g9 := g.sub (fx' := [(14, 52, a0_, .int w12_14_52_a0_), (14, 51, a0_, .int x_39), (14, 1, a0_, .ref q0_), (14, 65, a0_, .int tr_), (14, 66, a0_, .int tk_)]) [4, 0, 5, 6, 7] rfl
          exact ih12  y_44 w12_14_52_a0_ x_39 (bd_sub b_45 (by decide)) bw12_14_52_a0_ (bd_sub h_40 (by decide)) (by have h9_0 := b_45; unfold bd at h9_0; have h9_1 := bv12_1; unfold bd at h9_1; have h9_2 := bw12_14_51_a0_; unfold bd at h9_2; have h9_3 := bw12_14_52_a0_; unfold bd at h9_3; have h9_4 := h_40; unfold bd at h9_4; have h9_5 := kb_0; unfold bd at h9_5; have h9_6 := kb_1; unfold bd at h9_6; have h9_7 := kb_2; unfold bd at h9_7; have h9_8 := kb_m1; unfold bd at h9_8; omega) _ _ _ _ g9 hG_42 hG_43 ⟨_, hx_37, (hx_38.1 _ _ (by have h9_0 := btk_; unfold bd at h9_0; have h9_1 := b_13; unfold bd at h9_1; have h9_2 := b_12; unfold bd at h9_2; have h9_3 := b_35; unfold bd at h9_3; have h9_4 := bw12_14_52_a0_; unfold bd at h9_4; have h9_5 := b_34; unfold bd at h9_5; have h9_6 := bx_19; unfold bd at h9_6; have h9_7 := bx_20; unfold bd at h9_7; have h9_8 := h_40; unfold bd at h9_8; have h9_9 := b_23; unfold bd at h9_9; have h9_10 := b_27; unfold bd at h9_10; have h9_11 := b_31; unfold bd at h9_11; have h9_12 := b_45; unfold bd at h9_12; have h8_0 := kb_0; unfold bd at h8_0; have h8_1 := kb_1; unfold bd at h8_1; have h8_2 := kb_2; unfold bd at h8_2; have h8_3 := kb_m1; unfold bd at h8_3; omega) (by have h9_0 := btk_; unfold bd at h9_0; have h9_1 := b_13; unfold bd at h9_1; have h9_2 := b_12; unfold bd at h9_2; have h9_3 := b_35; unfold bd at h9_3; have h9_4 := bw12_14_52_a0_; unfold bd at h9_4; have h9_5 := b_34; unfold bd at h9_5; have h9_6 := bx_19; unfold bd at h9_6; have h9_7 := bx_20; unfold bd at h9_7; have h9_8 := h_40; unfold bd at h9_8; have h9_9 := b_23; unfold bd at h9_9; have h9_10 := b_27; unfold bd at h9_10; have h9_11 := b_31; unfold bd at h9_11; have h9_12 := b_45; unfold bd at h9_12; have h8_0 := kb_0; unfold bd at h8_0; have h8_1 := kb_1; unfold bd at h8_1; have h8_2 := kb_2; unfold bd at h8_2; have h8_3 := kb_m1; unfold bd at h8_3; omega)), (tk_ca2 (Int32.toInt_inj.mp hJ12) hp12 b_12.1 vx_19 vx_15 vx_24 vx_28 vx_32 (by have h9_0 := btk_; unfold bd at h9_0; have h9_1 := b_13; unfold bd at h9_1; have h9_2 := b_12; unfold bd at h9_2; have h9_3 := b_35; unfold bd at h9_3; have h9_4 := bw12_14_52_a0_; unfold bd at h9_4; have h9_5 := b_34; unfold bd at h9_5; have h9_6 := bx_19; unfold bd at h9_6; have h9_7 := bx_20; unfold bd at h9_7; have h9_8 := h_40; unfold bd at h9_8; have h9_9 := b_23; unfold bd at h9_9; have h9_10 := b_27; unfold bd at h9_10; have h9_11 := b_31; unfold bd at h9_11; have h9_12 := b_45; unfold bd at h9_12; have h8_0 := kb_0; unfold bd at h8_0; have h8_1 := kb_1; unfold bd at h8_1; have h8_2 := kb_2; unfold bd at h8_2; have h8_3 := kb_m1; unfold bd at h8_3; omega) (by have h9_0 := btk_; unfold bd at h9_0; have h9_1 := b_13; unfold bd at h9_1; have h9_2 := b_12; unfold bd at h9_2; have h9_3 := b_35; unfold bd at h9_3; have h9_4 := bw12_14_52_a0_; unfold bd at h9_4; have h9_5 := b_34; unfold bd at h9_5; have h9_6 := bx_19; unfold bd at h9_6; have h9_7 := bx_20; unfold bd at h9_7; have h9_8 := h_40; unfold bd at h9_8; have h9_9 := b_23; unfold bd at h9_9; have h9_10 := b_27; unfold bd at h9_10; have h9_11 := b_31; unfold bd at h9_11; have h9_12 := b_45; unfold bd at h9_12; have h8_0 := kb_0; unfold bd at h8_0; have h8_1 := kb_1; unfold bd at h8_1; have h8_2 := kb_2; unfold bd at h8_2; have h8_3 := kb_m1; unfold bd at h8_3; omega) (by have h9_0 := btk_; unfold bd at h9_0; have h9_1 := b_13; unfold bd at h9_1; have h9_2 := b_12; unfold bd at h9_2; have h9_3 := b_35; unfold bd at h9_3; have h9_4 := bw12_14_52_a0_; unfold bd at h9_4; have h9_5 := b_34; unfold bd at h9_5; have h9_6 := bx_19; unfold bd at h9_6; have h9_7 := bx_20; unfold bd at h9_7; have h9_8 := h_40; unfold bd at h9_8; have h9_9 := b_23; unfold bd at h9_9; have h9_10 := b_27; unfold bd at h9_10; have h9_11 := b_31; unfold bd at h9_11; have h9_12 := b_45; unfold bd at h9_12; have h8_0 := kb_0; unfold bd at h8_0; have h8_1 := kb_1; unfold bd at h8_1; have h8_2 := kb_2; unfold bd at h8_2; have h8_3 := kb_m1; unfold bd at h8_3; omega) (by have h9_0 := btk_; unfold bd at h9_0; have h9_1 := b_13; unfold bd at h9_1; have h9_2 := b_12; unfold bd at h9_2; have h9_3 := b_35; unfold bd at h9_3; have h9_4 := bw12_14_52_a0_; unfold bd at h9_4; have h9_5 := b_34; unfold bd at h9_5; have h9_6 := bx_19; unfold bd at h9_6; have h9_7 := bx_20; unfold bd at h9_7; have h9_8 := h_40; unfold bd at h9_8; have h9_9 := b_23; unfold bd at h9_9; have h9_10 := b_27; unfold bd at h9_10; have h9_11 := b_31; unfold bd at h9_11; have h9_12 := b_45; unfold bd at h9_12; have h8_0 := kb_0; unfold bd at h8_0; have h8_1 := kb_1; unfold bd at h8_1; have h8_2 := kb_2; unfold bd at h8_2; have h8_3 := kb_m1; unfold bd at h8_3; omega)), (by have h9_0 := btk_; unfold bd at h9_0; have h9_1 := b_13; unfold bd at h9_1; have h9_2 := b_12; unfold bd at h9_2; have h9_3 := b_35; unfold bd at h9_3; have h9_4 := bw12_14_52_a0_; unfold bd at h9_4; have h9_5 := b_34; unfold bd at h9_5; have h9_6 := bx_19; unfold bd at h9_6; have h9_7 := bx_20; unfold bd at h9_7; have h9_8 := h_40; unfold bd at h9_8; have h9_9 := b_23; unfold bd at h9_9; have h9_10 := b_27; unfold bd at h9_10; have h9_11 := b_31; unfold bd at h9_11; have h9_12 := b_45; unfold bd at h9_12; have h8_0 := kb_0; unfold bd at h8_0; have h8_1 := kb_1; unfold bd at h8_1; have h8_2 := kb_2; unfold bd at h8_2; have h8_3 := kb_m1; unfold bd at h8_3; omega), (by have h9_0 := btk_; unfold bd at h9_0; have h9_1 := b_13; unfold bd at h9_1; have h9_2 := b_12; unfold bd at h9_2; have h9_3 := b_35; unfold bd at h9_3; have h9_4 := bw12_14_52_a0_; unfold bd at h9_4; have h9_5 := b_34; unfold bd at h9_5; have h9_6 := bx_19; unfold bd at h9_6; have h9_7 := bx_20; unfold bd at h9_7; have h9_8 := h_40; unfold bd at h9_8; have h9_9 := b_23; unfold bd at h9_9; have h9_10 := b_27; unfold bd at h9_10; have h9_11 := b_31; unfold bd at h9_11; have h9_12 := b_45; unfold bd at h9_12; have h8_0 := kb_0; unfold bd at h8_0; have h8_1 := kb_1; unfold bd at h8_1; have h8_2 := kb_2; unfold bd at h8_2; have h8_3 := kb_m1; unfold bd at h8_3; omega)⟩ hl9
        · have fc_16 := eq_f c_16
          have b_46 : bd (-1) (-1) x_15 := eqX fc_16 bx_15 kb_m1 (by decide)
          refine lv_aload_n hx hb dX14_takeRow_30 rfl (lv_at hl 1 rfl) ?_
          refine lv_aload_n hx hb dX14_takeRow_31 rfl (lv_at hl 1 rfl) ?_
          refine g_getr (K := 232) (C := RX14) (T := TX14) (N := 67) hx hb hts (mc_ inX14) hown hK g ma0_ ka0_ (by decide) rfl 64 (by decide) rfl (hts _ (List.mem_cons_of_mem _ t_2210)) (fun _ h9 => h9) rfl dX14_takeRow_32 (fun a_47 ma_47 ka_47 g => ?_)
          refine lv_iconst (v := 3) hx hb dX14_takeRow_35 (by decide) ?_
          refine lv_iload_n hx hb dX14_takeRow_36 rfl (lv_at hl 0 rfl) ?_
          refine lv_imul hx hb dX14_takeRow_37 ?_
          refine lv_topi (fun y_48 ey_48 => ?_)
          have ty_48 := cmul_bd ey_48 (c := 3) (by decide) b_12 (by decide)
          have b_49 : bd 0 27 y_48 := mulc_rg ty_48 b_12 (by decide)
          refine g_iald hx hb hK g ma_47 ka_47 (by decide) rfl (in_bd b_49 (by decide)) dX14_takeRow_38 (fun x_50 bx_50 cx_50 => ?_)
          have vx_50 := hG12_T_a0_.at64 g 0 rfl (by have h9_0 := btk_; unfold bd at h9_0; have h9_1 := b_13; unfold bd at h9_1; have h9_2 := b_12; unfold bd at h9_2; have h9_3 := bw12_14_51_a0_; unfold bd at h9_3; have h9_4 := bw12_14_52_a0_; unfold bd at h9_4; have h9_5 := b_46; unfold bd at h9_5; have h9_6 := b_49; unfold bd at h9_6; have h8_0 := kb_0; unfold bd at h8_0; have h8_1 := kb_m1; unfold bd at h8_1; omega) cx_50
          have hk_51 : okc V_ x_50 := by rw [vx_50, (tri3 (by have h9_0 := btk_; unfold bd at h9_0; have h9_1 := b_13; unfold bd at h9_1; have h9_2 := b_12; unfold bd at h9_2; have h9_3 := bw12_14_51_a0_; unfold bd at h9_3; have h9_4 := bw12_14_52_a0_; unfold bd at h9_4; have h9_5 := b_46; unfold bd at h9_5; have h9_6 := b_49; unfold bd at h9_6; have h8_0 := kb_0; unfold bd at h8_0; have h8_1 := kb_m1; unfold bd at h8_1; omega) b_12.1 : y_48.toNatClampNeg = 3 * v12_1.toNatClampNeg)]; exact rn_cls htw b_12.1 fc_10 (by rw [← vx_15]; have h9 := b_46; unfold bd at h9; omega)
          have b_52 : bd 0 7 x_50 := ⟨hk_51.1, (by have h9 := hk_51.2; have h8 := hW.2.2.2.2.2.2.2; omega)⟩
          have b_53 : bd 0 9 w12_14_51_a0_ := ⟨bw12_14_51_a0_.1, (by have h9_0 := btk_; unfold bd at h9_0; have h9_1 := b_13; unfold bd at h9_1; have h9_2 := b_12; unfold bd at h9_2; have h9_3 := bw12_14_51_a0_; unfold bd at h9_3; have h9_4 := bw12_14_52_a0_; unfold bd at h9_4; have h9_5 := b_46; unfold bd at h9_5; have h9_6 := b_52; unfold bd at h9_6; have h9_7 := b_49; unfold bd at h9_7; have h8_0 := kb_0; unfold bd at h8_0; have h8_1 := kb_m1; unfold bd at h8_1; omega)⟩
          have b_54 : bd 0 2 w12_14_52_a0_ := ⟨bw12_14_52_a0_.1, tk_max (Int32.toInt_inj.mp hJ12) htw hI12 hp12 b_12.1 fc_10 (by rw [← vx_15]; have h9 := b_46; unfold bd at h9; omega) btk_.2⟩
          have go_ := g
          refine g_callv (va_runV (As := [.int x_50]) (rest := []) ⟨hx, hb, hml, hown, hts⟩ (r_X14_addMake l dC dI L kd tys f H.size g.2.2.2.1 a0_ ma0_ ka0_ x_50 b_52 q0_ mq0_ kq0_ w12_14_51_a0_ b_53 w12_14_52_a0_ b_54 V_ δ_ hW R12 hW12 hG12_V_q0_ hI12 hk_51 (g.fcts [4, 3, 2] rfl)) (cwV 1 hts (gV_ t_2594 t_2596 t_138 t_198 t_2597) rfl rfl rfl (by decide +kernel) ⟨(Nat.le_of_ble_eq_true rfl), (Nat.le_of_ble_eq_true rfl)⟩) (pre3V g hK ma0_ ka0_ (by decide) (q := (RX14, TX14, 67)) rfl) rfl rfl hl.1 rfl (lv_room (Nat.le_of_ble_eq_true rfl)) dX14_takeRow_39 ⟨(Nat.le_of_ble_eq_true rfl), (Nat.le_of_ble_eq_true rfl)⟩) g hK (by decide) (by decide) (fx' := [(14, 64, a0_, .ref a_47), (14, 63, a0_, .ref a_14), (14, 1, a0_, .ref q0_), (14, 65, a0_, .int tr_), (14, 66, a0_, .int tk_)]) rfl (fun fr_55 H locs hp hMr_55 g => ?_)
          obtain ⟨hx_56, hx_57, x_58, ⟨h_59, rh_59⟩, x_60, ⟨h_61, rh_61⟩, hF_62⟩ := hp
          have hG_63 := isT.frame hMr_55 go_.2.2.2.1 ma0_ ka0_ (by decide) (by decide) hG12_T_a0_
          have hG_64 := isV.frame hMr_55 go_.2.2.2.1 mq0_ kq0_ (by decide) (by decide) hG12_V_q0_
          have g := g.more hF_62
          refine lv_goto (tgt := 89) hx hb dX14_takeRow_42 (by decide) ?_
          have kb_1 : bd 1 1 (1 : Int32) := ⟨by decide, by decide⟩
          obtain ⟨y_65, ey_65⟩ : ∃ z : Int32, z = v12_1 + 1 := ⟨_, rfl⟩
          refine lv_iinc (v := y_65) (lv' := [(1, .int y_65), (0, .ref a0_)]) hx hb dX14_takeRow_89 hl (k := 0) rfl (by rw [ey_65]; rfl) (by decide) rfl (fun ls hl => ?_)
          have ty_65 := add_bd ey_65 b_12 kb_1 (by decide)
          have b_66 : bd 1 10 y_65 := add_rg ty_65 b_12 kb_1 (by decide)
          refine lv_goto (tgt := 12) hx hb dX14_takeRow_92 (by decide) ?_
          have hl9 := lv_sub hl [0, 1] (by rfl : lv_pick [(1, .int y_65), (0, .ref a0_)] [0, 1] = [(1, .int y_65), (0, .ref a0_)])
          have g9 := g.sub (fx' := [(14, 52, a0_, .int x_60), (14, 51, a0_, .int x_58), (14, 1, a0_, .ref q0_), (14, 65, a0_, .int tr_), (14, 66, a0_, .int tk_)]) [1, 0, 4, 5, 6] rfl
          exact ih12  y_65 x_60 x_58 (bd_sub b_66 (by decide)) (bd_sub h_61 (by decide)) (bd_sub h_59 (by decide)) (by have h9_0 := b_66; unfold bd at h9_0; have h9_1 := bv12_1; unfold bd at h9_1; have h9_2 := bw12_14_51_a0_; unfold bd at h9_2; have h9_3 := bw12_14_52_a0_; unfold bd at h9_3; have h9_4 := h_59; unfold bd at h9_4; have h9_5 := h_61; unfold bd at h9_5; have h9_6 := kb_0; unfold bd at h9_6; have h9_7 := kb_1; unfold bd at h9_7; have h9_8 := kb_m1; unfold bd at h9_8; omega) _ _ _ _ g9 hG_63 hG_64 ⟨_, hx_56, (hx_57.1 _ _ (by have h9_0 := btk_; unfold bd at h9_0; have h9_1 := b_13; unfold bd at h9_1; have h9_2 := b_12; unfold bd at h9_2; have h9_3 := b_53; unfold bd at h9_3; have h9_4 := b_54; unfold bd at h9_4; have h9_5 := b_46; unfold bd at h9_5; have h9_6 := b_52; unfold bd at h9_6; have h9_7 := h_59; unfold bd at h9_7; have h9_8 := h_61; unfold bd at h9_8; have h9_9 := b_49; unfold bd at h9_9; have h9_10 := b_66; unfold bd at h9_10; have h8_0 := kb_0; unfold bd at h8_0; have h8_1 := kb_1; unfold bd at h8_1; have h8_2 := kb_m1; unfold bd at h8_2; omega) (by have h9_0 := btk_; unfold bd at h9_0; have h9_1 := b_13; unfold bd at h9_1; have h9_2 := b_12; unfold bd at h9_2; have h9_3 := b_53; unfold bd at h9_3; have h9_4 := b_54; unfold bd at h9_4; have h9_5 := b_46; unfold bd at h9_5; have h9_6 := b_52; unfold bd at h9_6; have h9_7 := h_59; unfold bd at h9_7; have h9_8 := h_61; unfold bd at h9_8; have h9_9 := b_49; unfold bd at h9_9; have h9_10 := b_66; unfold bd at h9_10; have h8_0 := kb_0; unfold bd at h8_0; have h8_1 := kb_1; unfold bd at h8_1; have h8_2 := kb_m1; unfold bd at h8_2; omega)), (tk_mk2 (Int32.toInt_inj.mp hJ12) htw hI12 hp12 b_12.1 (by have h9_0 := btk_; unfold bd at h9_0; have h9_1 := b_13; unfold bd at h9_1; have h9_2 := b_12; unfold bd at h9_2; have h9_3 := b_53; unfold bd at h9_3; have h9_4 := b_54; unfold bd at h9_4; have h9_5 := b_46; unfold bd at h9_5; have h9_6 := b_52; unfold bd at h9_6; have h9_7 := h_59; unfold bd at h9_7; have h9_8 := h_61; unfold bd at h9_8; have h9_9 := b_49; unfold bd at h9_9; have h9_10 := b_66; unfold bd at h9_10; have h8_0 := kb_0; unfold bd at h8_0; have h8_1 := kb_1; unfold bd at h8_1; have h8_2 := kb_m1; unfold bd at h8_2; omega) fc_10 (by rw [← vx_15]; have h9 := b_46; unfold bd at h9; omega) (by rw [vx_50, (tri3 (by have h9_0 := btk_; unfold bd at h9_0; have h9_1 := b_13; unfold bd at h9_1; have h9_2 := b_12; unfold bd at h9_2; have h9_3 := b_53; unfold bd at h9_3; have h9_4 := b_54; unfold bd at h9_4; have h9_5 := b_46; unfold bd at h9_5; have h9_6 := b_52; unfold bd at h9_6; have h9_7 := h_59; unfold bd at h9_7; have h9_8 := h_61; unfold bd at h9_8; have h9_9 := b_49; unfold bd at h9_9; have h9_10 := b_66; unfold bd at h9_10; have h8_0 := kb_0; unfold bd at h8_0; have h8_1 := kb_1; unfold bd at h8_1; have h8_2 := kb_m1; unfold bd at h8_2; omega) b_12.1 : y_48.toNatClampNeg = 3 * v12_1.toNatClampNeg)]) (by have h9_0 := btk_; unfold bd at h9_0; have h9_1 := b_13; unfold bd at h9_1; have h9_2 := b_12; unfold bd at h9_2; have h9_3 := b_53; unfold bd at h9_3; have h9_4 := b_54; unfold bd at h9_4; have h9_5 := b_46; unfold bd at h9_5; have h9_6 := b_52; unfold bd at h9_6; have h9_7 := h_59; unfold bd at h9_7; have h9_8 := h_61; unfold bd at h9_8; have h9_9 := b_49; unfold bd at h9_9; have h9_10 := b_66; unfold bd at h9_10; have h8_0 := kb_0; unfold bd at h8_0; have h8_1 := kb_1; unfold bd at h8_1; have h8_2 := kb_m1; unfold bd at h8_2; omega) (by have h9_0 := btk_; unfold bd at h9_0; have h9_1 := b_13; unfold bd at h9_1; have h9_2 := b_12; unfold bd at h9_2; have h9_3 := b_53; unfold bd at h9_3; have h9_4 := b_54; unfold bd at h9_4; have h9_5 := b_46; unfold bd at h9_5; have h9_6 := b_52; unfold bd at h9_6; have h9_7 := h_59; unfold bd at h9_7; have h9_8 := h_61; unfold bd at h9_8; have h9_9 := b_49; unfold bd at h9_9; have h9_10 := b_66; unfold bd at h9_10; have h8_0 := kb_0; unfold bd at h8_0; have h8_1 := kb_1; unfold bd at h8_1; have h8_2 := kb_m1; unfold bd at h8_2; omega)), (by have h9_0 := btk_; unfold bd at h9_0; have h9_1 := b_13; unfold bd at h9_1; have h9_2 := b_12; unfold bd at h9_2; have h9_3 := b_53; unfold bd at h9_3; have h9_4 := b_54; unfold bd at h9_4; have h9_5 := b_46; unfold bd at h9_5; have h9_6 := b_52; unfold bd at h9_6; have h9_7 := h_59; unfold bd at h9_7; have h9_8 := h_61; unfold bd at h9_8; have h9_9 := b_49; unfold bd at h9_9; have h9_10 := b_66; unfold bd at h9_10; have h8_0 := kb_0; unfold bd at h8_0; have h8_1 := kb_1; unfold bd at h8_1; have h8_2 := kb_m1; unfold bd at h8_2; omega), (by have h9_0 := btk_; unfold bd at h9_0; have h9_1 := b_13; unfold bd at h9_1; have h9_2 := b_12; unfold bd at h9_2; have h9_3 := b_53; unfold bd at h9_3; have h9_4 := b_54; unfold bd at h9_4; have h9_5 := b_46; unfold bd at h9_5; have h9_6 := b_52; unfold bd at h9_6; have h9_7 := h_59; unfold bd at h9_7; have h9_8 := h_61; unfold bd at h9_8; have h9_9 := b_49; unfold bd at h9_9; have h9_10 := b_66; unfold bd at h9_10; have h8_0 := kb_0; unfold bd at h8_0; have h8_1 := kb_1; unfold bd at h8_1; have h8_2 := kb_m1; unfold bd at h8_2; omega)⟩ hl9
  have hl9 := lv_sub hl [0, 1] (by rfl : lv_pick [(1, .int 0), (0, .ref a0_)] [0, 1] = [(1, .int 0), (0, .ref a0_)])
  have g9 := g.sub (fx' := [(14, 52, a0_, .int 0), (14, 51, a0_, .int 0), (14, 1, a0_, .ref q0_), (14, 65, a0_, .int tr_), (14, 66, a0_, .int tk_)]) [0, 1, 2, 3, 4] rfl
  exact loop_9 (23) 0 0 0 (bd_sub kb_0 (by decide)) (bd_sub kb_0 (by decide)) (bd_sub kb_0 (by decide)) (by have h9_0 := kb_0; unfold bd at h9_0; omega) _ _ _ _ g9 hG_6 hG_7 ⟨_, hG_8, rwOK.zero, pfx.zero, rfl, (Int.le_trans (by decide) btr_.1)⟩ hl9
set_option maxHeartbeats 4000000 in
set_option maxRecDepth 100000 in
theorem r_X14_backToLast (l : Launch) (dC : Nat → ClassId) (dI : Nat → Nat → Nat) (L : List Nat) (kd : Nat → Nat) (tys : List (ClassId × FieldType)) (f0 : Nat → va_E) (sz : Nat) (hWT : WT L kd tys f0) (adK adV : Nat → Nat) (a0_ : Nat) (ma0_ : a0_ ∈ L) (ka0_ : kd a0_ = 14) (q0_ : Nat) (mq0_ : q0_ ∈ L) (kq0_ : kd q0_ = 12) (V_ : PV) (δ_ : Nat → Nat) (hW : wfP V_ δ_) (hGta0_ : tOK f0 a0_ V_) (hGVq0_ : isV f0 q0_ V_) (hGmq0_ : mOK f0 q0_ V_) (hfx : Fs L kd f0 [(14, 1, a0_, .ref q0_)]) : Met l yX14_backToLast (.code yX14_backToLast cX14_backToLast 2 none :: lw_g) ({ frames := 977, cells := 0, slots := 0, locals := 39117 }) (va_Pc [.ref a0_] (P3A (dC, dI) L tys f0 sz adK adV)) (va_Qv (fun (f : Nat → va_E) => ((rOK f a0_ V_) ∧ (oOK f a0_ V_) ∧ Fs L kd f [(14, 53, a0_, .int 0)])) (Q3 (dC, dI) L kd tys [(14, 30), (14, 31), (14, 32), (14, 33), (14, 34), (14, 35), (14, 36), (14, 37), (14, 38), (14, 39), (14, 40), (14, 45), (14, 51), (14, 52), (14, 53), (14, 55)] [200, 215, 216, 217, 218, 219, 220, 221, 222, 223, 224, 225, 226, 227, 228, 229] f0 sz) (pA L sz)) 0 0 (pA L sz) := by
  refine Met.ofW (cc := cX14_backToLast) (maxL := 2) (ret := none) (by decide) rfl ?_
  intro p e s m args below meth c s₁ B hml hv
  obtain ⟨rfl, ⟨hsz, hP, hK, hD0⟩, hAm⟩ := hv
  have hx := B.exec
  have hb := B.bytes
  have hr := B.returns
  have hts := atoms_spec (ws := (.code yX14_backToLast cX14_backToLast 2 none :: lw_g)) B.pre
  have hown : s.vm.findClass RX14 = some m.cls := findClass_of_methodNamed B.named
  have hlocks := B.notSynchronized
  subst hsz
  have g : G3 (dC, dI) L kd tys s f0 [(14, 30), (14, 31), (14, 32), (14, 33), (14, 34), (14, 35), (14, 36), (14, 37), (14, 38), (14, 39), (14, 40), (14, 45), (14, 51), (14, 52), (14, 53), (14, 55)] [200, 215, 216, 217, 218, 219, 220, 221, 222, 223, 224, 225, 226, 227, 228, 229] f0 s.heap [] [(14, 1, a0_, .ref q0_)] := G3.start hP hD0 hWT hfx
  have hl := lv_entry ([.ref a0_]) (n := 2) (Nat.le_of_ble_eq_true rfl)
  rw [lg_entry_eq]
  generalize (lg_sl ([.ref a0_]) ++ List.replicate (2 - (lg_sl ([.ref a0_])).length) Slot.unset).toArray = ls at hl ⊢
  have hl : lv_has ls 2 [(0, .ref a0_)] := hl
  refine W_q (fun Q hQ => ?_)
  refine lv_aload_n hx hb dX14_backToLast_0 rfl (lv_at hl 0 rfl) ?_
  obtain ⟨x_1, bx_1, g⟩ := g_facti g ma0_ ka0_ (by decide) 65 rfl
  obtain ⟨x_2, bx_2, g⟩ := g_facti g ma0_ ka0_ (by decide) 66 rfl
  obtain ⟨T_3, hT_4, htw_5⟩ := (id hGta0_)
  have htw_5 := htw_5 x_1 x_2 (fx_at g (i := 1) rfl).2.2.2 (fx_at g (i := 0) rfl).2.2.2
  have go_ := g
  refine g_callv (va_runV (As := []) (rest := []) ⟨hx, hb, hml, hown, hts⟩ (r_X14_takeRow l dC dI L kd tys f0 s.heap.size g.2.2.2.1 a0_ ma0_ ka0_ q0_ mq0_ kq0_ x_1 bx_1 x_2 bx_2 V_ δ_ hW T_3 hT_4 hGVq0_ htw_5 (g.fcts [2, 1, 0] rfl)) (cwV 0 hts (gV_ t_2772 t_2774 t_177 t_198 t_2775) rfl rfl rfl (by decide +kernel) ⟨(Nat.le_of_ble_eq_true rfl), (Nat.le_of_ble_eq_true rfl)⟩) (pre3V g hK ma0_ ka0_ (by decide) (q := (RX14, TX14, 67)) rfl) rfl rfl hl.1 rfl (lv_room (Nat.le_of_ble_eq_true rfl)) dX14_backToLast_1 ⟨(Nat.le_of_ble_eq_true rfl), (Nat.le_of_ble_eq_true rfl)⟩) g hK (by decide) (by decide) (fx' := [(14, 66, a0_, .int x_2), (14, 65, a0_, .int x_1), (14, 1, a0_, .ref q0_)]) rfl (fun fr_6 H locs hp hMr_6 g => ?_)
  obtain ⟨hx_7, x_8, ⟨h_9, rh_9⟩, x_10, ⟨h_11, rh_11⟩, hF_12⟩ := hp
  have hG_13 := tOK.frame hMr_6 go_.2.2.2.1 ma0_ ka0_ (by decide) (by decide) hGta0_
  have hG_14 := isV.frame hMr_6 go_.2.2.2.1 mq0_ kq0_ (by decide) (by decide) hGVq0_
  have hG_15 := mOK.frame hMr_6 go_.2.2.2.1 mq0_ kq0_ (by decide) (by decide) hGmq0_
  have hG_16 := isT.frame hMr_6 go_.2.2.2.1 ma0_ ka0_ (by decide) (by decide) hT_4
  obtain ⟨R_17, hR_18, hp_19, hr_20⟩ := hx_7
  have g := g.more hF_12
  refine lv_aload_n hx hb dX14_backToLast_4 rfl (lv_at hl 0 rfl) ?_
  have go_ := g
  refine g_calli (va_runV (As := []) (rest := []) ⟨hx, hb, hml, hown, hts⟩ (r_X14_runRow l dC dI L kd tys fr_6 H.size g.2.2.2.1 adK adV a0_ ma0_ ka0_ q0_ mq0_ kq0_ x_8 h_9 x_10 h_11 V_ δ_ hW (fun j => aI fr_6 (rf fr_6 a0_ 27) j) R_17 OA.refl hR_18 hG_14 hG_15 (hr_20 _ _ (by have h9_0 := bx_1; unfold bd at h9_0; have h9_1 := h_11; unfold bd at h9_1; have h9_2 := bx_2; unfold bd at h9_2; have h9_3 := h_9; unfold bd at h9_3; omega) (by have h9_0 := bx_1; unfold bd at h9_0; have h9_1 := h_11; unfold bd at h9_1; have h9_2 := bx_2; unfold bd at h9_2; have h9_3 := h_9; unfold bd at h9_3; omega)) (g.fcts [4, 0, 1] rfl)) (cwV 0 hts (gV_ t_2614 t_2616 t_141 t_198 t_2617) rfl rfl rfl (by decide +kernel) ⟨(Nat.le_of_ble_eq_true rfl), (Nat.le_of_ble_eq_true rfl)⟩) (pre3VA g hK hAm ma0_ ka0_ (by decide) (q := (RX14, TX14, 67)) rfl) rfl rfl hl.1 rfl (lv_room (Nat.le_of_ble_eq_true rfl)) dX14_backToLast_5 ⟨(Nat.le_of_ble_eq_true rfl), (Nat.le_of_ble_eq_true rfl)⟩) g hK (by decide) (by decide) (fx' := [(14, 51, a0_, .int x_8), (14, 52, a0_, .int x_10), (14, 66, a0_, .int x_2), (14, 65, a0_, .int x_1), (14, 1, a0_, .ref q0_)]) rfl (fun r_21 fr_21 H locs hp hMr_21 g => ?_)
  obtain ⟨hx_22, hF_23⟩ := hp
  have hG_24 := tOK.frame hMr_21 go_.2.2.2.1 ma0_ ka0_ (by decide) (by decide) hG_13
  have hG_25 := isV.frame hMr_21 go_.2.2.2.1 mq0_ kq0_ (by decide) (by decide) hG_14
  have hG_26 := mOK.frame hMr_21 go_.2.2.2.1 mq0_ kq0_ (by decide) (by decide) hG_15
  have hG_27 := isT.frame hMr_21 go_.2.2.2.1 ma0_ ka0_ (by decide) (by decide) hG_16
  have hG_28 := isW.frame hMr_21 go_.2.2.2.1 ma0_ ka0_ (by decide) (by decide) hR_18
  have g := g.more hF_23
  refine lv_istore_n (lv' := [(1, .int r_21), (0, .ref a0_)]) hx hb dX14_backToLast_8 rfl hl (by decide) rfl (fun ls hl => ?_)
  subst hQ
  exact W.vret hx hb hr (fun t ht hW => ⟨⟨_, rfl, ⟨(rOK.of hG_28 g 1 2 rfl rfl (hr_20 _ _ (by have h9_0 := bx_1; unfold bd at h9_0; have h9_1 := h_11; unfold bd at h9_1; have h9_2 := bx_2; unfold bd at h9_2; have h9_3 := h_9; unfold bd at h9_3; omega) (by have h9_0 := bx_1; unfold bd at h9_0; have h9_1 := h_11; unfold bd at h9_1; have h9_2 := bx_2; unfold bd at h9_2; have h9_3 := h_9; unfold bd at h9_3; omega))), hx_22, (g.fcts [0] rfl)⟩, q3_of g hK ht hW⟩, g.2.2.1.F ht⟩) g.2.2.1.2.2 dX14_backToLast_9
set_option maxHeartbeats 4000000 in
set_option maxRecDepth 100000 in
theorem r_X14_all (l : Launch) (dC : Nat → ClassId) (dI : Nat → Nat → Nat) (L : List Nat) (kd : Nat → Nat) (tys : List (ClassId × FieldType)) (f0 : Nat → va_E) (sz : Nat) (hWT : WT L kd tys f0) (adK adV : Nat → Nat) (a0_ : Nat) (ma0_ : a0_ ∈ L) (ka0_ : kd a0_ = 14) (x1_ : Int32) (x2_ : Int32) (q0_ : Nat) (mq0_ : q0_ ∈ L) (kq0_ : kd q0_ = 12) (V_ : PV) (δ_ : Nat → Nat) (hW : wfP V_ δ_) (hGoa0_ : oOK f0 a0_ V_) (hGwa0_ : rOK f0 a0_ V_) (hGVq0_ : isV f0 q0_ V_) (hGmq0_ : mOK f0 q0_ V_) (hfx : Fs L kd f0 [(14, 1, a0_, .ref q0_)]) : Met l yX14_all (.code yX14_all cX14_all 5 (some .int) :: lw_g) ({ frames := 986, cells := 0, slots := 0, locals := 39651 }) (va_Pc [.ref a0_, .int x1_, .int x2_] (P3A (dC, dI) L tys f0 sz adK adV)) (va_Qi (fun (r : Int32) (f : Nat → va_E) => ((rOK f a0_ V_) ∧ (oOK f a0_ V_) ∧ bd (-2) 2147483647 r ∧ True)) (Q3 (dC, dI) L kd tys [(14, 30), (14, 31), (14, 32), (14, 33), (14, 34), (14, 35), (14, 36), (14, 37), (14, 38), (14, 39), (14, 40), (14, 45), (14, 51), (14, 52), (14, 53), (14, 55), (14, 58), (14, 59), (14, 61), (14, 65), (14, 66)] [200, 215, 216, 217, 218, 219, 220, 221, 222, 223, 224, 225, 226, 227, 228, 229, 230, 231, 232] f0 sz) (pA L sz)) 0 0 (pA L sz) := by
  refine Met.ofW (cc := cX14_all) (maxL := 5) (ret := (some .int)) (by decide) rfl ?_
  intro p e s m args below meth c s₁ B hml hv
  obtain ⟨rfl, ⟨hsz, hP, hK, hD0⟩, hAm⟩ := hv
  have hx := B.exec
  have hb := B.bytes
  have hr := B.returns
  have hts := atoms_spec (ws := (.code yX14_all cX14_all 5 (some .int) :: lw_g)) B.pre
  have hown : s.vm.findClass RX14 = some m.cls := findClass_of_methodNamed B.named
  have hlocks := B.notSynchronized
  subst hsz
  have g : G3 (dC, dI) L kd tys s f0 [(14, 30), (14, 31), (14, 32), (14, 33), (14, 34), (14, 35), (14, 36), (14, 37), (14, 38), (14, 39), (14, 40), (14, 45), (14, 51), (14, 52), (14, 53), (14, 55), (14, 58), (14, 59), (14, 61), (14, 65), (14, 66)] [200, 215, 216, 217, 218, 219, 220, 221, 222, 223, 224, 225, 226, 227, 228, 229, 230, 231, 232] f0 s.heap [] [(14, 1, a0_, .ref q0_)] := G3.start hP hD0 hWT hfx
  have hl := lv_entry ([.ref a0_, .int x1_, .int x2_]) (n := 5) (Nat.le_of_ble_eq_true rfl)
  rw [lg_entry_eq]
  generalize (lg_sl ([.ref a0_, .int x1_, .int x2_]) ++ List.replicate (5 - (lg_sl ([.ref a0_, .int x1_, .int x2_])).length) Slot.unset).toArray = ls at hl ⊢
  have hl : lv_has ls 5 [(0, .ref a0_), (1, .int x1_), (2, .int x2_)] := hl
  refine W_q (fun Q hQ => ?_)
  refine lv_aload_n hx hb dX14_all_0 rfl (lv_at hl 0 rfl) ?_
  refine lv_iload_n hx hb dX14_all_1 rfl (lv_at hl 1 rfl) ?_
  have go_ := g
  refine g_calli (va_runV (As := [.int x1_]) (rest := []) ⟨hx, hb, hml, hown, hts⟩ (r_X14_isClass_2 l dC dI L kd tys f0 s.heap.size g.2.2.2.1 a0_ ma0_ ka0_ x1_ q0_ mq0_ kq0_ V_ δ_ hW hGVq0_ (g.fcts [0] rfl)) (cwV 1 hts (gV_ t_2574 t_2576 t_137 t_198 t_2577) rfl rfl rfl (by decide +kernel) ⟨(Nat.le_of_ble_eq_true rfl), (Nat.le_of_ble_eq_true rfl)⟩) (pre3V g hK ma0_ ka0_ (by decide) (q := (RX14, TX14, 67)) rfl) rfl rfl hl.1 rfl (lv_room (Nat.le_of_ble_eq_true rfl)) dX14_all_2 ⟨(Nat.le_of_ble_eq_true rfl), (Nat.le_of_ble_eq_true rfl)⟩) g hK (by decide) (by decide) (fx' := [(14, 1, a0_, .ref q0_)]) rfl (fun r_1 fr_1 H locs hp hMr_1 g => ?_)
  rcases hp with ⟨h_2, -⟩ | ⟨hx_3, h_4, h_5, x_6, h_7, hF_8⟩
  · have hG_9 := oOK.frame hMr_1 go_.2.2.2.1 ma0_ ka0_ (by decide) (by decide) hGoa0_
    have hG_10 := rOK.frame hMr_1 go_.2.2.2.1 ma0_ ka0_ (by decide) (by decide) hGwa0_
    have hG_11 := isV.frame hMr_1 go_.2.2.2.1 mq0_ kq0_ (by decide) (by decide) hGVq0_
    have hG_12 := mOK.frame hMr_1 go_.2.2.2.1 mq0_ kq0_ (by decide) (by decide) hGmq0_
    obtain rfl : r_1 = 0 := h_2
    refine lv_if_eq (tgt := 20) hx hb dX14_all_5 (by decide) (fun c_ => ?_) (fun c_ => absurd (by decide) c_)
    refine lv_bipush (v := (-2)) hx hb dX14_all_20 (by decide) ?_
    have kb_m2 : bd (-2) (-2) ((-2) : Int32) := ⟨by decide, by decide⟩
    subst hQ
    exact W.iret (v := (-2)) hx hb hr (fun t ht hW => ⟨⟨_, _, rfl, ⟨hG_10, hG_9, (bd_sub kb_m2 (by decide)), trivial⟩, q3_of g hK ht hW⟩, g.2.2.1.F ht⟩) g.2.2.1.2.2 dX14_all_22
  · have hG_13 := oOK.frame hMr_1 go_.2.2.2.1 ma0_ ka0_ (by decide) (by decide) hGoa0_
    have hG_14 := rOK.frame hMr_1 go_.2.2.2.1 ma0_ ka0_ (by decide) (by decide) hGwa0_
    have hG_15 := isV.frame hMr_1 go_.2.2.2.1 mq0_ kq0_ (by decide) (by decide) hGVq0_
    have hG_16 := mOK.frame hMr_1 go_.2.2.2.1 mq0_ kq0_ (by decide) (by decide) hGmq0_
    obtain rfl : r_1 = 1 := h_4
    have b_17 : bd 0 7 x1_ := eqX rfl (bdT x1_) h_5 (by decide)
    have g := g.more hF_8
    refine lv_if_eq (tgt := 20) hx hb dX14_all_5 (by decide) (fun c_ => absurd c_ (by decide)) (fun c_ => ?_)
    refine lv_iload_n hx hb dX14_all_8 rfl (lv_at hl 2 rfl) ?_
    refine lv_i2l hx hb dX14_all_9 rfl ?_
    refine lv_topl (fun y_18 ey_18 => ?_)
    refine lv_lconst (v := 1) hx hb dX14_all_10 (by decide) ?_
    refine lv_ldc2 (v := 4) hx hb hown (hts _ (List.mem_cons_of_mem _ t_2751)) dX14_all_11 ?_
    have go_ := g
    refine g_calli (va_runS (As := [.long y_18, .long 1, .long 4]) (rest := []) ⟨hx, hb, hml, hown, hts⟩ (r_X14_in l dC dI L kd tys fr_1 H.size g.2.2.2.1 y_18 1 4) (va_cwS 3 hts (gS_ t_2448 t_2449 t_198 t_2450) rfl rfl rfl (by decide +kernel) ⟨(Nat.le_of_ble_eq_true rfl), (Nat.le_of_ble_eq_true rfl)⟩) (pre3S g hK) rfl rfl hl.1 rfl (lv_room (Nat.le_of_ble_eq_true rfl)) dX14_all_14 ⟨(Nat.le_of_ble_eq_true rfl), (Nat.le_of_ble_eq_true rfl)⟩) g hK (by decide) (by decide) (fx' := [(12, 0, q0_, .int x_6), (14, 1, a0_, .ref q0_)]) rfl (fun r_19 fr_19 H locs hp hMr_19 g => ?_)
    rcases hp with ⟨hx_20, h_21, -⟩ | ⟨h_22, h_23, -⟩
    · have hG_24 := oOK.frame hMr_19 go_.2.2.2.1 ma0_ ka0_ (by decide) (by decide) hG_13
      have hG_25 := rOK.frame hMr_19 go_.2.2.2.1 ma0_ ka0_ (by decide) (by decide) hG_14
      have hG_26 := isV.frame hMr_19 go_.2.2.2.1 mq0_ kq0_ (by decide) (by decide) hG_15
      have hG_27 := mOK.frame hMr_19 go_.2.2.2.1 mq0_ kq0_ (by decide) (by decide) hG_16
      obtain rfl : r_19 = 0 := h_21
      refine lv_if_ne (tgt := 23) hx hb dX14_all_17 (by decide) (fun c_ => absurd c_ (by decide)) (fun c_ => ?_)
      refine lv_bipush (v := (-2)) hx hb dX14_all_20 (by decide) ?_
      have kb_m2 : bd (-2) (-2) ((-2) : Int32) := ⟨by decide, by decide⟩
      subst hQ
      exact W.iret (v := (-2)) hx hb hr (fun t ht hW => ⟨⟨_, _, rfl, ⟨hG_25, hG_24, (bd_sub kb_m2 (by decide)), trivial⟩, q3_of g hK ht hW⟩, g.2.2.1.F ht⟩) g.2.2.1.2.2 dX14_all_22
    · have hG_28 := oOK.frame hMr_19 go_.2.2.2.1 ma0_ ka0_ (by decide) (by decide) hG_13
      have hG_29 := rOK.frame hMr_19 go_.2.2.2.1 ma0_ ka0_ (by decide) (by decide) hG_14
      have hG_30 := isV.frame hMr_19 go_.2.2.2.1 mq0_ kq0_ (by decide) (by decide) hG_15
      have hG_31 := mOK.frame hMr_19 go_.2.2.2.1 mq0_ kq0_ (by decide) (by decide) hG_16
      obtain rfl : r_19 = 1 := h_22
      have f_32 : (1 : Int32).toInt ≤ x2_.toInt := in_le h_23.1 (in_k (k := 1) (by decide) (by decide)) (in_v ey_18)
      have f_33 : x2_.toInt ≤ (4 : Int32).toInt := in_le h_23.2 (in_v ey_18) (in_k (k := 4) (by decide) (by decide))
      have kb_1 : bd 1 1 (1 : Int32) := ⟨by decide, by decide⟩
      have b_34 : bd 1 2147483647 x2_ := leR f_32 kb_1 (bdT x2_) (by decide)
      have kb_4 : bd 4 4 (4 : Int32) := ⟨by decide, by decide⟩
      have b_35 : bd 1 4 x2_ := leL f_33 b_34 kb_4 (by decide)
      refine lv_if_ne (tgt := 23) hx hb dX14_all_17 (by decide) (fun c_ => ?_) (fun c_ => absurd c_ (by decide))
      refine lv_aload_n hx hb dX14_all_23 rfl (lv_at hl 0 rfl) ?_
      refine lv_iconst (v := 0) hx hb dX14_all_24 (by decide) ?_
      have kb_0 : bd 0 0 (0 : Int32) := ⟨by decide, by decide⟩
      have go_ := g
      refine g_put (C := RX14) (T := TX14) (N := 67) hx hb hts (mc_ inX14) tyX14 tyX14_ok nmX14 hown hK g ma0_ ka0_ (by decide) rfl 58 (by decide) (hts _ (List.mem_cons_of_mem _ t_2204)) (fun _ h9 => h9) rfl rfl (okV_i (bd_sub kb_0 (by decide))) rfl rfl (by decide) (Or.inr (Or.inl (by decide))) (fx' := [(12, 0, q0_, .int x_6), (14, 1, a0_, .ref q0_)]) rfl dX14_all_25 (fun f H locs hM_36 g => ?_)
      have hG_37 := oOK.frame hM_36 go_.2.2.2.1 ma0_ ka0_ (by decide) (by decide) hG_28
      have hG_38 := rOK.frame hM_36 go_.2.2.2.1 ma0_ ka0_ (by decide) (by decide) hG_29
      have hG_39 := isV.frame hM_36 go_.2.2.2.1 mq0_ kq0_ (by decide) (by decide) hG_30
      have hG_40 := mOK.frame hM_36 go_.2.2.2.1 mq0_ kq0_ (by decide) (by decide) hG_31
      refine lv_aload_n hx hb dX14_all_28 rfl (lv_at hl 0 rfl) ?_
      refine lv_iconst (v := 0) hx hb dX14_all_29 (by decide) ?_
      have go_ := g
      refine g_put (C := RX14) (T := TX14) (N := 67) hx hb hts (mc_ inX14) tyX14 tyX14_ok nmX14 hown hK g ma0_ ka0_ (by decide) rfl 59 (by decide) (hts _ (List.mem_cons_of_mem _ t_2205)) (fun _ h9 => h9) rfl rfl (okV_i (bd_sub kb_0 (by decide))) rfl rfl (by decide) (Or.inr (Or.inl (by decide))) (fx' := [(14, 58, a0_, .int 0), (12, 0, q0_, .int x_6), (14, 1, a0_, .ref q0_)]) rfl dX14_all_30 (fun f H locs hM_41 g => ?_)
      have hG_42 := oOK.frame hM_41 go_.2.2.2.1 ma0_ ka0_ (by decide) (by decide) hG_37
      have hG_43 := rOK.frame hM_41 go_.2.2.2.1 ma0_ ka0_ (by decide) (by decide) hG_38
      have hG_44 := isV.frame hM_41 go_.2.2.2.1 mq0_ kq0_ (by decide) (by decide) hG_39
      have hG_45 := mOK.frame hM_41 go_.2.2.2.1 mq0_ kq0_ (by decide) (by decide) hG_40
      refine lv_aload_n hx hb dX14_all_33 rfl (lv_at hl 0 rfl) ?_
      refine lv_iconst (v := 0) hx hb dX14_all_34 (by decide) ?_
      have go_ := g
      refine g_put (C := RX14) (T := TX14) (N := 67) hx hb hts (mc_ inX14) tyX14 tyX14_ok nmX14 hown hK g ma0_ ka0_ (by decide) rfl 61 (by decide) (hts _ (List.mem_cons_of_mem _ t_2207)) (fun _ h9 => h9) rfl rfl (okV_i (bd_sub kb_0 (by decide))) rfl rfl (by decide) (Or.inr (Or.inl (by decide))) (fx' := [(14, 59, a0_, .int 0), (14, 58, a0_, .int 0), (12, 0, q0_, .int x_6), (14, 1, a0_, .ref q0_)]) rfl dX14_all_35 (fun f H locs hM_46 g => ?_)
      have hG_47 := oOK.frame hM_46 go_.2.2.2.1 ma0_ ka0_ (by decide) (by decide) hG_42
      have hG_48 := rOK.frame hM_46 go_.2.2.2.1 ma0_ ka0_ (by decide) (by decide) hG_43
      have hG_49 := isV.frame hM_46 go_.2.2.2.1 mq0_ kq0_ (by decide) (by decide) hG_44
      have hG_50 := mOK.frame hM_46 go_.2.2.2.1 mq0_ kq0_ (by decide) (by decide) hG_45
      refine lv_iconst (v := 1) hx hb dX14_all_38 (by decide) ?_
      refine lv_istore_n (lv' := [(3, .int 1), (0, .ref a0_), (1, .int x1_), (2, .int x2_)]) hx hb dX14_all_39 rfl hl (by decide) rfl (fun ls hl => ?_)
      refine lv_iload_n hx hb dX14_all_40 rfl (lv_at hl 0 rfl) ?_
      refine lv_iload_n hx hb dX14_all_41 rfl (lv_at hl 3 rfl) ?_
      refine lv_icmp_gt (tgt := 83) hx hb dX14_all_42 (by decide) (fun c_51 => ?_) (fun c_51 => ?_)
      · have fc_51 := lt_f c_51
        have b_52 : bd 1 0 x2_ := ltL fc_51 b_35 kb_1 (by decide)
        exact bd_no b_52 (by decide)
      · have fc_51 := nlt_f c_51
        refine lv_aload_n hx hb dX14_all_45 rfl (lv_at hl 1 rfl) ?_
        have go_ := g
        refine g_calli (va_runV (As := []) (rest := []) ⟨hx, hb, hml, hown, hts⟩ (r_X14_clear l dC dI L kd tys f H.size g.2.2.2.1 a0_ ma0_ ka0_) (cwV 0 hts (gV_ t_2733 t_2587 t_2588 t_198 t_2589) rfl rfl rfl (by decide +kernel) ⟨(Nat.le_of_ble_eq_true rfl), (Nat.le_of_ble_eq_true rfl)⟩) (pre3V g hK ma0_ ka0_ (by decide) (q := (RX14, TX14, 67)) rfl) rfl rfl hl.1 rfl (lv_room (Nat.le_of_ble_eq_true rfl)) dX14_all_46 ⟨(Nat.le_of_ble_eq_true rfl), (Nat.le_of_ble_eq_true rfl)⟩) g hK (by decide) (by decide) (fx' := [(14, 61, a0_, .int 0), (14, 59, a0_, .int 0), (14, 58, a0_, .int 0), (12, 0, q0_, .int x_6), (14, 1, a0_, .ref q0_)]) rfl (fun r_53 fr_53 H locs hp hMr_53 g => ?_)
        obtain ⟨h_54, hF_55⟩ := hp
        have hG_56 := oOK.frame hMr_53 go_.2.2.2.1 ma0_ ka0_ (by decide) (by decide) hG_47
        have hG_57 := isV.frame hMr_53 go_.2.2.2.1 mq0_ kq0_ (by decide) (by decide) hG_49
        have hG_58 := mOK.frame hMr_53 go_.2.2.2.1 mq0_ kq0_ (by decide) (by decide) hG_50
        have g := g.more hF_55
        refine lv_istore (lv' := [(4, .int r_53), (3, .int 1), (0, .ref a0_), (1, .int x1_), (2, .int x2_)]) hx hb dX14_all_49 hl (by decide) rfl (fun ls hl => ?_)
        refine lv_aload_n hx hb dX14_all_51 rfl (lv_at hl 2 rfl) ?_
        refine lv_iload_n hx hb dX14_all_52 rfl (lv_at hl 3 rfl) ?_
        refine lv_iload_n hx hb dX14_all_53 rfl (lv_at hl 1 rfl) ?_
        have go_ := g
        refine g_calli (va_runV (As := [.int x1_, .int 1]) (rest := []) ⟨hx, hb, hml, hown, hts⟩ (r_X14_goOver_B1 l dC dI L kd tys fr_53 H.size g.2.2.2.1 adK adV a0_ ma0_ ka0_ x1_ b_17 (1 : Int32) kb_1 q0_ mq0_ kq0_ (0 : Int32) kb_0 (0 : Int32) (bd_sub kb_0 (by decide)) (0 : Int32) kb_0 V_ δ_ hW (wOf fr_53 a0_) hG_57 isW.refl hG_58 hG_56 rwOK.zero (allC.zero) hx_3 (by have h9_0 := h_54; unfold bd at h9_0; have h9_1 := b_17; unfold bd at h9_1; have h9_2 := b_35; unfold bd at h9_2; have h9_3 := h_7; unfold bd at h9_3; have h8_0 := kb_0; unfold bd at h8_0; have h8_1 := kb_1; unfold bd at h8_1; have h8_2 := kb_4; unfold bd at h8_2; omega) (g.fcts [7, 2, 1, 5] rfl)) (cwV 2 hts (gV_ t_2752 t_2754 t_172 t_198 t_2755) rfl rfl rfl (by decide +kernel) ⟨(Nat.le_of_ble_eq_true rfl), (Nat.le_of_ble_eq_true rfl)⟩) (pre3VA g hK hAm ma0_ ka0_ (by decide) (q := (RX14, TX14, 67)) rfl) rfl rfl hl.1 rfl (lv_room (Nat.le_of_ble_eq_true rfl)) dX14_all_54 ⟨(Nat.le_of_ble_eq_true rfl), (Nat.le_of_ble_eq_true rfl)⟩) g hK (by decide) (by decide) (fx' := [(12, 0, q0_, .int x_6), (14, 1, a0_, .ref q0_)]) rfl (fun r_59 fr_59 H locs hp hMr_59 g => ?_)
        obtain ⟨hG_60, hG_61, hx_62, h_63, -⟩ := hp
        have hG_64 := isV.frame hMr_59 go_.2.2.2.1 mq0_ kq0_ (by decide) (by decide) hG_57
        have hG_65 := mOK.frame hMr_59 go_.2.2.2.1 mq0_ kq0_ (by decide) (by decide) hG_58
        obtain ⟨R_66, hR_67, hp_68, hr_69⟩ := hx_62
        refine lv_if_ne (tgt := 63) hx hb dX14_all_57 (by decide) (fun c_70 => ?_) (fun c_70 => ?_)
        · have fc_70 := neq_f c_70
          have b_71 : bd 1 1 r_59 := neX fc_70 h_63 kb_0 (by decide)
          refine lv_aload_n hx hb dX14_all_63 rfl (lv_at hl 2 rfl) ?_
          refine g_geti (C := RX14) (T := TX14) (N := 67) hx hb hts (mc_ inX14) hown hK g ma0_ ka0_ (by decide) rfl 61 (by decide) rfl (hts _ (List.mem_cons_of_mem _ t_2207)) (fun _ h9 => h9) rfl dX14_all_64 (fun x_72 bx_72 g => ?_)
          refine lv_if_le (tgt := 75) hx hb dX14_all_67 (by decide) (fun c_73 => ?_) (fun c_73 => ?_)
          · have fc_73 := le_f c_73
            have b_74 : bd (-2147483648) 0 x_72 := leL fc_73 (bdT x_72) kb_0 (by decide)
            refine lv_iload_n hx hb dX14_all_75 rfl (lv_at hl 4 rfl) ?_
            refine lv_istore_n (lv' := [(3, .int x2_), (4, .int r_53), (0, .ref a0_), (1, .int x1_), (2, .int x2_)]) hx hb dX14_all_76 rfl hl (by decide) rfl (fun ls hl => ?_)
            obtain ⟨y_75, ey_75⟩ : ∃ z : Int32, z = x2_ + 1 := ⟨_, rfl⟩
            refine lv_iinc (v := y_75) (lv' := [(3, .int y_75), (4, .int r_53), (0, .ref a0_), (1, .int x1_), (2, .int x2_)]) hx hb dX14_all_77 hl (k := 0) rfl (by rw [ey_75]; rfl) (by decide) rfl (fun ls hl => ?_)
            have ty_75 := add_bd ey_75 b_35 kb_1 (by decide)
            have b_76 : bd 2 5 y_75 := add_rg ty_75 b_35 kb_1 (by decide)
            refine lv_goto (tgt := 40) hx hb dX14_all_80 (by decide) ?_
            have loop_77 : ∀ (n : Nat) (v40_3 : Int32) (v40_4 : Int32), bd 2 5 v40_3 → bd 0 10 v40_4 → (5 - v40_3.toInt < (n : Int)) → ∀ (f : Nat → va_E) (H : Heap) (locs : List Loc) (ls : Array Slot), G3 (dC, dI) L kd tys s f0 [(14, 30), (14, 31), (14, 32), (14, 33), (14, 34), (14, 35), (14, 36), (14, 37), (14, 38), (14, 39), (14, 40), (14, 45), (14, 51), (14, 52), (14, 53), (14, 55), (14, 58), (14, 59), (14, 61), (14, 65), (14, 66)] [200, 215, 216, 217, 218, 219, 220, 221, 222, 223, 224, 225, 226, 227, 228, 229, 230, 231, 232] f H locs [(12, 0, q0_, .int x_6), (14, 1, a0_, .ref q0_)] → oOK f a0_ V_ → isV f q0_ V_ → mOK f q0_ V_ → tOK f a0_ V_ → rOK f a0_ V_ → lv_has ls 5 [(3, .int v40_3), (4, .int v40_4), (0, .ref a0_), (1, .int x1_), (2, .int x2_)] → W p l e ({ frames := 986, cells := 0, slots := 0, locals := 39651 } : Room) s m [.ref a0_, .int x1_, .int x2_].toArray below meth c H locs 0 0 Q (F0 m 40 ls []) := by
              intro n40
              induction n40 with
              | zero =>
                intro v40_3 v40_4 bv40_3 bv40_4 hm40 f H locs ls g hG40_o_a0_ hG40_V_q0_ hG40_m_q0_ hG40_t_a0_ hG40_w_a0_ hl
                exact absurd hm40 (by have h9_v40_3 := bv40_3; unfold bd at h9_v40_3; have h9_v40_4 := bv40_4; unfold bd at h9_v40_4; omega)
              | succ n40 ih40 =>
                intro v40_3 v40_4 bv40_3 bv40_4 hm40 f H locs ls g hG40_o_a0_ hG40_V_q0_ hG40_m_q0_ hG40_t_a0_ hG40_w_a0_ hl
                refine lv_iload_n hx hb dX14_all_40 rfl (lv_at hl 0 rfl) ?_
                refine lv_iload_n hx hb dX14_all_41 rfl (lv_at hl 4 rfl) ?_
                refine lv_icmp_gt (tgt := 83) hx hb dX14_all_42 (by decide) (fun c_78 => ?_) (fun c_78 => ?_)
                · have fc_78 := lt_f c_78
                  refine lv_aload_n hx hb dX14_all_83 rfl (lv_at hl 2 rfl) ?_
                  have go_ := g
                  refine g_callv (va_runV (As := []) (rest := []) ⟨hx, hb, hml, hown, hts⟩ (r_X14_backToLast l dC dI L kd tys f H.size g.2.2.2.1 adK adV a0_ ma0_ ka0_ q0_ mq0_ kq0_ V_ δ_ hW hG40_t_a0_ hG40_V_q0_ hG40_m_q0_ (g.fcts [1] rfl)) (cwV 0 hts (gV_ t_2768 t_2770 t_176 t_198 t_2771) rfl rfl rfl (by decide +kernel) ⟨(Nat.le_of_ble_eq_true rfl), (Nat.le_of_ble_eq_true rfl)⟩) (pre3VA g hK hAm ma0_ ka0_ (by decide) (q := (RX14, TX14, 67)) rfl) rfl rfl hl.1 rfl (lv_room (Nat.le_of_ble_eq_true rfl)) dX14_all_84 ⟨(Nat.le_of_ble_eq_true rfl), (Nat.le_of_ble_eq_true rfl)⟩) g hK (by decide) (by decide) (fx' := [(12, 0, q0_, .int x_6), (14, 1, a0_, .ref q0_)]) rfl (fun fr_79 H locs hp hMr_79 g => ?_)
                  obtain ⟨hx_80, hx_81, hF_82⟩ := hp
                  have hG_83 := isV.frame hMr_79 go_.2.2.2.1 mq0_ kq0_ (by decide) (by decide) hG40_V_q0_
                  have hG_84 := mOK.frame hMr_79 go_.2.2.2.1 mq0_ kq0_ (by decide) (by decide) hG40_m_q0_
                  have hG_85 := tOK.frame hMr_79 go_.2.2.2.1 ma0_ ka0_ (by decide) (by decide) hG40_t_a0_
                  have g := g.more hF_82
                  refine lv_iconst (v := 0) hx hb dX14_all_87 (by decide) ?_
                  subst hQ
                  exact W.iret (v := 0) hx hb hr (fun t ht hW => ⟨⟨_, _, rfl, ⟨hx_80, hx_81, (bd_sub kb_0 (by decide)), trivial⟩, q3_of g hK ht hW⟩, g.2.2.1.F ht⟩) g.2.2.1.2.2 dX14_all_88
                · have fc_78 := nlt_f c_78
                  have b_86 : bd 2 4 v40_3 := leL fc_78 bv40_3 b_35 (by decide)
                  have b_87 : bd 2 4 x2_ := leR fc_78 bv40_3 b_35 (by decide)
                  refine lv_aload_n hx hb dX14_all_45 rfl (lv_at hl 2 rfl) ?_
                  have go_ := g
                  refine g_calli (va_runV (As := []) (rest := []) ⟨hx, hb, hml, hown, hts⟩ (r_X14_clear l dC dI L kd tys f H.size g.2.2.2.1 a0_ ma0_ ka0_) (cwV 0 hts (gV_ t_2733 t_2587 t_2588 t_198 t_2589) rfl rfl rfl (by decide +kernel) ⟨(Nat.le_of_ble_eq_true rfl), (Nat.le_of_ble_eq_true rfl)⟩) (pre3V g hK ma0_ ka0_ (by decide) (q := (RX14, TX14, 67)) rfl) rfl rfl hl.1 rfl (lv_room (Nat.le_of_ble_eq_true rfl)) dX14_all_46 ⟨(Nat.le_of_ble_eq_true rfl), (Nat.le_of_ble_eq_true rfl)⟩) g hK (by decide) (by decide) (fx' := [(12, 0, q0_, .int x_6), (14, 1, a0_, .ref q0_)]) rfl (fun r_88 fr_88 H locs hp hMr_88 g => ?_)
                  obtain ⟨h_89, hF_90⟩ := hp
                  have hG_91 := oOK.frame hMr_88 go_.2.2.2.1 ma0_ ka0_ (by decide) (by decide) hG40_o_a0_
                  have hG_92 := isV.frame hMr_88 go_.2.2.2.1 mq0_ kq0_ (by decide) (by decide) hG40_V_q0_
                  have hG_93 := mOK.frame hMr_88 go_.2.2.2.1 mq0_ kq0_ (by decide) (by decide) hG40_m_q0_
                  have hG_94 := tOK.frame hMr_88 go_.2.2.2.1 ma0_ ka0_ (by decide) (by decide) hG40_t_a0_
                  have g := g.more hF_90
                  refine lv_istore (lv' := [(4, .int r_88), (3, .int v40_3), (0, .ref a0_), (1, .int x1_), (2, .int x2_)]) hx hb dX14_all_49 hl (by decide) rfl (fun ls hl => ?_)
                  refine lv_aload_n hx hb dX14_all_51 rfl (lv_at hl 2 rfl) ?_
                  refine lv_iload_n hx hb dX14_all_52 rfl (lv_at hl 3 rfl) ?_
                  refine lv_iload_n hx hb dX14_all_53 rfl (lv_at hl 1 rfl) ?_
                  have go_ := g
                  refine g_calli (va_runV (As := [.int x1_, .int v40_3]) (rest := []) ⟨hx, hb, hml, hown, hts⟩ ((recGo 5) l dC dI L kd tys fr_88 H.size g.2.2.2.1 adK adV a0_ ma0_ ka0_ x1_ b_17 v40_3 (bd_sub b_86 (by decide)) q0_ mq0_ kq0_ (0 : Int32) (bd_sub kb_0 (by decide)) (0 : Int32) (bd_sub kb_0 (by decide)) V_ δ_ hW (wOf fr_88 a0_) hG_92 isW.refl hG_93 hG_91 hG_94 rwOK.zero (allC.zero) hx_3 (by have h9_0 := h_54; unfold bd at h9_0; have h9_1 := b_71; unfold bd at h9_1; have h9_2 := h_89; unfold bd at h9_2; have h9_3 := b_86; unfold bd at h9_3; have h9_4 := bv40_4; unfold bd at h9_4; have h9_5 := b_17; unfold bd at h9_5; have h9_6 := b_87; unfold bd at h9_6; have h9_7 := h_7; unfold bd at h9_7; have h9_8 := b_74; unfold bd at h9_8; have h9_9 := b_76; unfold bd at h9_9; have h8_0 := kb_0; unfold bd at h8_0; have h8_1 := kb_1; unfold bd at h8_1; have h8_2 := kb_4; unfold bd at h8_2; omega) (by have h9_0 := h_54; unfold bd at h9_0; have h9_1 := b_71; unfold bd at h9_1; have h9_2 := h_89; unfold bd at h9_2; have h9_3 := b_86; unfold bd at h9_3; have h9_4 := bv40_4; unfold bd at h9_4; have h9_5 := b_17; unfold bd at h9_5; have h9_6 := b_87; unfold bd at h9_6; have h9_7 := h_7; unfold bd at h9_7; have h9_8 := b_74; unfold bd at h9_8; have h9_9 := b_76; unfold bd at h9_9; have h8_0 := kb_0; unfold bd at h8_0; have h8_1 := kb_1; unfold bd at h8_1; have h8_2 := kb_4; unfold bd at h8_2; omega) (g.fcts [4, 2, 1] rfl)) (cwV 2 hts (gV_ t_2752 t_2754 t_172 t_198 t_2755) rfl rfl rfl (by decide +kernel) ⟨(Nat.le_of_ble_eq_true rfl), (Nat.le_of_ble_eq_true rfl)⟩) (pre3VA g hK hAm ma0_ ka0_ (by decide) (q := (RX14, TX14, 67)) rfl) rfl rfl hl.1 rfl (lv_room (Nat.le_of_ble_eq_true rfl)) dX14_all_54 ⟨(Nat.le_of_ble_eq_true rfl), (Nat.le_of_ble_eq_true rfl)⟩) g hK (by decide) (by decide) (fx' := [(12, 0, q0_, .int x_6), (14, 1, a0_, .ref q0_)]) rfl (fun r_95 fr_95 H locs hp hMr_95 g => ?_)
                  obtain ⟨hG_96, hG_97, hx_98, h_99, -⟩ := hp
                  have hG_100 := isV.frame hMr_95 go_.2.2.2.1 mq0_ kq0_ (by decide) (by decide) hG_92
                  have hG_101 := mOK.frame hMr_95 go_.2.2.2.1 mq0_ kq0_ (by decide) (by decide) hG_93
                  obtain ⟨R_102, hR_103, hp_104, hr_105⟩ := hx_98
                  refine lv_if_ne (tgt := 63) hx hb dX14_all_57 (by decide) (fun c_106 => ?_) (fun c_106 => ?_)
                  · have fc_106 := neq_f c_106
                    have b_107 : bd 1 1 r_95 := neX fc_106 h_99 kb_0 (by decide)
                    refine lv_aload_n hx hb dX14_all_63 rfl (lv_at hl 2 rfl) ?_
                    refine g_geti (C := RX14) (T := TX14) (N := 67) hx hb hts (mc_ inX14) hown hK g ma0_ ka0_ (by decide) rfl 61 (by decide) rfl (hts _ (List.mem_cons_of_mem _ t_2207)) (fun _ h9 => h9) rfl dX14_all_64 (fun x_108 bx_108 g => ?_)
                    refine lv_if_le (tgt := 75) hx hb dX14_all_67 (by decide) (fun c_109 => ?_) (fun c_109 => ?_)
                    · have fc_109 := le_f c_109
                      have b_110 : bd (-2147483648) 0 x_108 := leL fc_109 (bdT x_108) kb_0 (by decide)
                      refine lv_iload_n hx hb dX14_all_75 rfl (lv_at hl 4 rfl) ?_
                      refine lv_istore_n (lv' := [(3, .int x2_), (4, .int r_88), (0, .ref a0_), (1, .int x1_), (2, .int x2_)]) hx hb dX14_all_76 rfl hl (by decide) rfl (fun ls hl => ?_)
                      obtain ⟨y_111, ey_111⟩ : ∃ z : Int32, z = x2_ + 1 := ⟨_, rfl⟩
                      refine lv_iinc (v := y_111) (lv' := [(3, .int y_111), (4, .int r_88), (0, .ref a0_), (1, .int x1_), (2, .int x2_)]) hx hb dX14_all_77 hl (k := 0) rfl (by rw [ey_111]; rfl) (by decide) rfl (fun ls hl => ?_)
                      have ty_111 := add_bd ey_111 b_87 kb_1 (by decide)
                      have b_112 : bd 3 5 y_111 := add_rg ty_111 b_87 kb_1 (by decide)
                      refine lv_goto (tgt := 40) hx hb dX14_all_80 (by decide) ?_
                      have hl9 := lv_sub hl [0, 1, 2, 3, 4] (by rfl : lv_pick [(3, .int y_111), (4, .int r_88), (0, .ref a0_), (1, .int x1_), (2, .int x2_)] [0, 1, 2, 3, 4] = [(3, .int y_111), (4, .int r_88), (0, .ref a0_), (1, .int x1_), (2, .int x2_)])
                      have g9 := g.sub (fx' := [(12, 0, q0_, .int x_6), (14, 1, a0_, .ref q0_)]) [1, 2] rfl
                      exact ih40  y_111 r_88 (bd_sub b_112 (by decide)) h_89 (by have h9_0 := b_110; unfold bd at h9_0; have h9_1 := b_112; unfold bd at h9_1; have h9_2 := bv40_3; unfold bd at h9_2; have h9_3 := bv40_4; unfold bd at h9_3; have h9_4 := h_89; unfold bd at h9_4; have h9_5 := kb_0; unfold bd at h9_5; have h9_6 := kb_1; unfold bd at h9_6; have h9_7 := kb_4; unfold bd at h9_7; omega) _ _ _ _ g9 hG_96 hG_100 hG_101 hG_97 ⟨_, hR_103, hr_105⟩ hl9
                    · have fc_109 := nle_f c_109
                      have b_113 : bd 1 2147483647 x_108 := ltR fc_109 kb_0 (bdT x_108) (by decide)
                      refine lv_aload_n hx hb dX14_all_70 rfl (lv_at hl 2 rfl) ?_
                      refine g_getk (C := RX14) (T := TX14) (N := 67) hx hb hts (mc_ inX14) hown hK g rfl 61 (by decide) rfl (hts _ (List.mem_cons_of_mem _ t_2207)) (fun _ h9 => h9) 0 rfl dX14_all_71 ?_
                      subst hQ
                      exact W.iret (v := x_108) hx hb hr (fun t ht hW => ⟨⟨_, _, rfl, ⟨⟨_, hR_103, hr_105⟩, hG_96, (bd_sub b_113 (by decide)), trivial⟩, q3_of g hK ht hW⟩, g.2.2.1.F ht⟩) g.2.2.1.2.2 dX14_all_74
                  · have fc_106 := eq_f c_106
                    have b_114 : bd 0 0 r_95 := eqX fc_106 h_99 kb_0 (by decide)
                    refine lv_goto (tgt := 77) hx hb dX14_all_60 (by decide) ?_
                    obtain ⟨y_115, ey_115⟩ : ∃ z : Int32, z = v40_3 + 1 := ⟨_, rfl⟩
                    refine lv_iinc (v := y_115) (lv' := [(3, .int y_115), (4, .int r_88), (0, .ref a0_), (1, .int x1_), (2, .int x2_)]) hx hb dX14_all_77 hl (k := 1) rfl (by rw [ey_115]; rfl) (by decide) rfl (fun ls hl => ?_)
                    have ty_115 := add_bd ey_115 b_86 kb_1 (by decide)
                    have b_116 : bd 3 5 y_115 := add_rg ty_115 b_86 kb_1 (by decide)
                    refine lv_goto (tgt := 40) hx hb dX14_all_80 (by decide) ?_
                    have hl9 := lv_sub hl [0, 1, 2, 3, 4] (by rfl : lv_pick [(3, .int y_115), (4, .int r_88), (0, .ref a0_), (1, .int x1_), (2, .int x2_)] [0, 1, 2, 3, 4] = [(3, .int y_115), (4, .int r_88), (0, .ref a0_), (1, .int x1_), (2, .int x2_)])
                    have g9 := g.sub (fx' := [(12, 0, q0_, .int x_6), (14, 1, a0_, .ref q0_)]) [0, 1] rfl
                    exact ih40  y_115 r_88 (bd_sub b_116 (by decide)) h_89 (by have h9_0 := b_116; unfold bd at h9_0; have h9_1 := bv40_3; unfold bd at h9_1; have h9_2 := bv40_4; unfold bd at h9_2; have h9_3 := h_89; unfold bd at h9_3; have h9_4 := kb_0; unfold bd at h9_4; have h9_5 := kb_1; unfold bd at h9_5; have h9_6 := kb_4; unfold bd at h9_6; omega) _ _ _ _ g9 hG_96 hG_100 hG_101 hG_97 ⟨_, hR_103, hr_105⟩ hl9
            have hl9 := lv_sub hl [0, 1, 2, 3, 4] (by rfl : lv_pick [(3, .int y_75), (4, .int r_53), (0, .ref a0_), (1, .int x1_), (2, .int x2_)] [0, 1, 2, 3, 4] = [(3, .int y_75), (4, .int r_53), (0, .ref a0_), (1, .int x1_), (2, .int x2_)])
            have g9 := g.sub (fx' := [(12, 0, q0_, .int x_6), (14, 1, a0_, .ref q0_)]) [1, 2] rfl
            exact loop_77 (10) y_75 r_53 b_76 h_54 (by have h9_0 := b_74; unfold bd at h9_0; have h9_1 := b_76; unfold bd at h9_1; have h9_2 := h_54; unfold bd at h9_2; have h9_3 := kb_0; unfold bd at h9_3; have h9_4 := kb_1; unfold bd at h9_4; have h9_5 := kb_4; unfold bd at h9_5; omega) _ _ _ _ g9 hG_60 hG_64 hG_65 hG_61 ⟨_, hR_67, hr_69⟩ hl9
          · have fc_73 := nle_f c_73
            have b_117 : bd 1 2147483647 x_72 := ltR fc_73 kb_0 (bdT x_72) (by decide)
            refine lv_aload_n hx hb dX14_all_70 rfl (lv_at hl 2 rfl) ?_
            refine g_getk (C := RX14) (T := TX14) (N := 67) hx hb hts (mc_ inX14) hown hK g rfl 61 (by decide) rfl (hts _ (List.mem_cons_of_mem _ t_2207)) (fun _ h9 => h9) 0 rfl dX14_all_71 ?_
            subst hQ
            exact W.iret (v := x_72) hx hb hr (fun t ht hW => ⟨⟨_, _, rfl, ⟨⟨_, hR_67, hr_69⟩, hG_60, (bd_sub b_117 (by decide)), trivial⟩, q3_of g hK ht hW⟩, g.2.2.1.F ht⟩) g.2.2.1.2.2 dX14_all_74
        · have fc_70 := eq_f c_70
          have b_118 : bd 0 0 r_59 := eqX fc_70 h_63 kb_0 (by decide)
          refine lv_goto (tgt := 77) hx hb dX14_all_60 (by decide) ?_
          refine lv_iinc (v := 2) (lv' := [(3, .int 2), (4, .int r_53), (0, .ref a0_), (1, .int x1_), (2, .int x2_)]) hx hb dX14_all_77 hl (k := 1) rfl (by decide) (by decide) rfl (fun ls hl => ?_)
          refine lv_goto (tgt := 40) hx hb dX14_all_80 (by decide) ?_
          have loop_119 : ∀ (n : Nat) (v40_3 : Int32) (v40_4 : Int32), bd 2 5 v40_3 → bd 0 10 v40_4 → (5 - v40_3.toInt < (n : Int)) → ∀ (f : Nat → va_E) (H : Heap) (locs : List Loc) (ls : Array Slot), G3 (dC, dI) L kd tys s f0 [(14, 30), (14, 31), (14, 32), (14, 33), (14, 34), (14, 35), (14, 36), (14, 37), (14, 38), (14, 39), (14, 40), (14, 45), (14, 51), (14, 52), (14, 53), (14, 55), (14, 58), (14, 59), (14, 61), (14, 65), (14, 66)] [200, 215, 216, 217, 218, 219, 220, 221, 222, 223, 224, 225, 226, 227, 228, 229, 230, 231, 232] f H locs [(12, 0, q0_, .int x_6), (14, 1, a0_, .ref q0_)] → oOK f a0_ V_ → isV f q0_ V_ → mOK f q0_ V_ → tOK f a0_ V_ → rOK f a0_ V_ → lv_has ls 5 [(3, .int v40_3), (4, .int v40_4), (0, .ref a0_), (1, .int x1_), (2, .int x2_)] → W p l e ({ frames := 986, cells := 0, slots := 0, locals := 39651 } : Room) s m [.ref a0_, .int x1_, .int x2_].toArray below meth c H locs 0 0 Q (F0 m 40 ls []) := by
            intro n40
            induction n40 with
            | zero =>
              intro v40_3 v40_4 bv40_3 bv40_4 hm40 f H locs ls g hG40_o_a0_ hG40_V_q0_ hG40_m_q0_ hG40_t_a0_ hG40_w_a0_ hl
              exact absurd hm40 (by have h9_v40_3 := bv40_3; unfold bd at h9_v40_3; have h9_v40_4 := bv40_4; unfold bd at h9_v40_4; omega)
            | succ n40 ih40 =>
              intro v40_3 v40_4 bv40_3 bv40_4 hm40 f H locs ls g hG40_o_a0_ hG40_V_q0_ hG40_m_q0_ hG40_t_a0_ hG40_w_a0_ hl
              refine lv_iload_n hx hb dX14_all_40 rfl (lv_at hl 0 rfl) ?_
              refine lv_iload_n hx hb dX14_all_41 rfl (lv_at hl 4 rfl) ?_
              refine lv_icmp_gt (tgt := 83) hx hb dX14_all_42 (by decide) (fun c_120 => ?_) (fun c_120 => ?_)
              · have fc_120 := lt_f c_120
                refine lv_aload_n hx hb dX14_all_83 rfl (lv_at hl 2 rfl) ?_
                have go_ := g
                refine g_callv (va_runV (As := []) (rest := []) ⟨hx, hb, hml, hown, hts⟩ (r_X14_backToLast l dC dI L kd tys f H.size g.2.2.2.1 adK adV a0_ ma0_ ka0_ q0_ mq0_ kq0_ V_ δ_ hW hG40_t_a0_ hG40_V_q0_ hG40_m_q0_ (g.fcts [1] rfl)) (cwV 0 hts (gV_ t_2768 t_2770 t_176 t_198 t_2771) rfl rfl rfl (by decide +kernel) ⟨(Nat.le_of_ble_eq_true rfl), (Nat.le_of_ble_eq_true rfl)⟩) (pre3VA g hK hAm ma0_ ka0_ (by decide) (q := (RX14, TX14, 67)) rfl) rfl rfl hl.1 rfl (lv_room (Nat.le_of_ble_eq_true rfl)) dX14_all_84 ⟨(Nat.le_of_ble_eq_true rfl), (Nat.le_of_ble_eq_true rfl)⟩) g hK (by decide) (by decide) (fx' := [(12, 0, q0_, .int x_6), (14, 1, a0_, .ref q0_)]) rfl (fun fr_121 H locs hp hMr_121 g => ?_)
                obtain ⟨hx_122, hx_123, hF_124⟩ := hp
                have hG_125 := isV.frame hMr_121 go_.2.2.2.1 mq0_ kq0_ (by decide) (by decide) hG40_V_q0_
                have hG_126 := mOK.frame hMr_121 go_.2.2.2.1 mq0_ kq0_ (by decide) (by decide) hG40_m_q0_
                have hG_127 := tOK.frame hMr_121 go_.2.2.2.1 ma0_ ka0_ (by decide) (by decide) hG40_t_a0_
                have g := g.more hF_124
                refine lv_iconst (v := 0) hx hb dX14_all_87 (by decide) ?_
                subst hQ
                exact W.iret (v := 0) hx hb hr (fun t ht hW => ⟨⟨_, _, rfl, ⟨hx_122, hx_123, (bd_sub kb_0 (by decide)), trivial⟩, q3_of g hK ht hW⟩, g.2.2.1.F ht⟩) g.2.2.1.2.2 dX14_all_88
              · have fc_120 := nlt_f c_120
                have b_128 : bd 2 4 v40_3 := leL fc_120 bv40_3 b_35 (by decide)
                have b_129 : bd 2 4 x2_ := leR fc_120 bv40_3 b_35 (by decide)
                refine lv_aload_n hx hb dX14_all_45 rfl (lv_at hl 2 rfl) ?_
                have go_ := g
                refine g_calli (va_runV (As := []) (rest := []) ⟨hx, hb, hml, hown, hts⟩ (r_X14_clear l dC dI L kd tys f H.size g.2.2.2.1 a0_ ma0_ ka0_) (cwV 0 hts (gV_ t_2733 t_2587 t_2588 t_198 t_2589) rfl rfl rfl (by decide +kernel) ⟨(Nat.le_of_ble_eq_true rfl), (Nat.le_of_ble_eq_true rfl)⟩) (pre3V g hK ma0_ ka0_ (by decide) (q := (RX14, TX14, 67)) rfl) rfl rfl hl.1 rfl (lv_room (Nat.le_of_ble_eq_true rfl)) dX14_all_46 ⟨(Nat.le_of_ble_eq_true rfl), (Nat.le_of_ble_eq_true rfl)⟩) g hK (by decide) (by decide) (fx' := [(12, 0, q0_, .int x_6), (14, 1, a0_, .ref q0_)]) rfl (fun r_130 fr_130 H locs hp hMr_130 g => ?_)
                obtain ⟨h_131, hF_132⟩ := hp
                have hG_133 := oOK.frame hMr_130 go_.2.2.2.1 ma0_ ka0_ (by decide) (by decide) hG40_o_a0_
                have hG_134 := isV.frame hMr_130 go_.2.2.2.1 mq0_ kq0_ (by decide) (by decide) hG40_V_q0_
                have hG_135 := mOK.frame hMr_130 go_.2.2.2.1 mq0_ kq0_ (by decide) (by decide) hG40_m_q0_
                have hG_136 := tOK.frame hMr_130 go_.2.2.2.1 ma0_ ka0_ (by decide) (by decide) hG40_t_a0_
                have g := g.more hF_132
                refine lv_istore (lv' := [(4, .int r_130), (3, .int v40_3), (0, .ref a0_), (1, .int x1_), (2, .int x2_)]) hx hb dX14_all_49 hl (by decide) rfl (fun ls hl => ?_)
                refine lv_aload_n hx hb dX14_all_51 rfl (lv_at hl 2 rfl) ?_
                refine lv_iload_n hx hb dX14_all_52 rfl (lv_at hl 3 rfl) ?_
                refine lv_iload_n hx hb dX14_all_53 rfl (lv_at hl 1 rfl) ?_
                have go_ := g
                refine g_calli (va_runV (As := [.int x1_, .int v40_3]) (rest := []) ⟨hx, hb, hml, hown, hts⟩ ((recGo 5) l dC dI L kd tys fr_130 H.size g.2.2.2.1 adK adV a0_ ma0_ ka0_ x1_ b_17 v40_3 (bd_sub b_128 (by decide)) q0_ mq0_ kq0_ (0 : Int32) (bd_sub kb_0 (by decide)) (0 : Int32) (bd_sub kb_0 (by decide)) V_ δ_ hW (wOf fr_130 a0_) hG_134 isW.refl hG_135 hG_133 hG_136 rwOK.zero (allC.zero) hx_3 (by have h9_0 := h_131; unfold bd at h9_0; have h9_1 := h_54; unfold bd at h9_1; have h9_2 := b_118; unfold bd at h9_2; have h9_3 := b_128; unfold bd at h9_3; have h9_4 := bv40_4; unfold bd at h9_4; have h9_5 := b_17; unfold bd at h9_5; have h9_6 := b_129; unfold bd at h9_6; have h9_7 := h_7; unfold bd at h9_7; have h8_0 := kb_0; unfold bd at h8_0; have h8_1 := kb_1; unfold bd at h8_1; have h8_2 := kb_4; unfold bd at h8_2; omega) (by have h9_0 := h_131; unfold bd at h9_0; have h9_1 := h_54; unfold bd at h9_1; have h9_2 := b_118; unfold bd at h9_2; have h9_3 := b_128; unfold bd at h9_3; have h9_4 := bv40_4; unfold bd at h9_4; have h9_5 := b_17; unfold bd at h9_5; have h9_6 := b_129; unfold bd at h9_6; have h9_7 := h_7; unfold bd at h9_7; have h8_0 := kb_0; unfold bd at h8_0; have h8_1 := kb_1; unfold bd at h8_1; have h8_2 := kb_4; unfold bd at h8_2; omega) (g.fcts [4, 2, 1] rfl)) (cwV 2 hts (gV_ t_2752 t_2754 t_172 t_198 t_2755) rfl rfl rfl (by decide +kernel) ⟨(Nat.le_of_ble_eq_true rfl), (Nat.le_of_ble_eq_true rfl)⟩) (pre3VA g hK hAm ma0_ ka0_ (by decide) (q := (RX14, TX14, 67)) rfl) rfl rfl hl.1 rfl (lv_room (Nat.le_of_ble_eq_true rfl)) dX14_all_54 ⟨(Nat.le_of_ble_eq_true rfl), (Nat.le_of_ble_eq_true rfl)⟩) g hK (by decide) (by decide) (fx' := [(12, 0, q0_, .int x_6), (14, 1, a0_, .ref q0_)]) rfl (fun r_137 fr_137 H locs hp hMr_137 g => ?_)
                obtain ⟨hG_138, hG_139, hx_140, h_141, -⟩ := hp
                have hG_142 := isV.frame hMr_137 go_.2.2.2.1 mq0_ kq0_ (by decide) (by decide) hG_134
                have hG_143 := mOK.frame hMr_137 go_.2.2.2.1 mq0_ kq0_ (by decide) (by decide) hG_135
                obtain ⟨R_144, hR_145, hp_146, hr_147⟩ := hx_140
                refine lv_if_ne (tgt := 63) hx hb dX14_all_57 (by decide) (fun c_148 => ?_) (fun c_148 => ?_)
                · have fc_148 := neq_f c_148
                  have b_149 : bd 1 1 r_137 := neX fc_148 h_141 kb_0 (by decide)
                  refine lv_aload_n hx hb dX14_all_63 rfl (lv_at hl 2 rfl) ?_
                  refine g_geti (C := RX14) (T := TX14) (N := 67) hx hb hts (mc_ inX14) hown hK g ma0_ ka0_ (by decide) rfl 61 (by decide) rfl (hts _ (List.mem_cons_of_mem _ t_2207)) (fun _ h9 => h9) rfl dX14_all_64 (fun x_150 bx_150 g => ?_)
                  refine lv_if_le (tgt := 75) hx hb dX14_all_67 (by decide) (fun c_151 => ?_) (fun c_151 => ?_)
                  · have fc_151 := le_f c_151
                    have b_152 : bd (-2147483648) 0 x_150 := leL fc_151 (bdT x_150) kb_0 (by decide)
                    refine lv_iload_n hx hb dX14_all_75 rfl (lv_at hl 4 rfl) ?_
                    refine lv_istore_n (lv' := [(3, .int x2_), (4, .int r_130), (0, .ref a0_), (1, .int x1_), (2, .int x2_)]) hx hb dX14_all_76 rfl hl (by decide) rfl (fun ls hl => ?_)
                    obtain ⟨y_153, ey_153⟩ : ∃ z : Int32, z = x2_ + 1 := ⟨_, rfl⟩
                    refine lv_iinc (v := y_153) (lv' := [(3, .int y_153), (4, .int r_130), (0, .ref a0_), (1, .int x1_), (2, .int x2_)]) hx hb dX14_all_77 hl (k := 0) rfl (by rw [ey_153]; rfl) (by decide) rfl (fun ls hl => ?_)
                    have ty_153 := add_bd ey_153 b_129 kb_1 (by decide)
                    have b_154 : bd 3 5 y_153 := add_rg ty_153 b_129 kb_1 (by decide)
                    refine lv_goto (tgt := 40) hx hb dX14_all_80 (by decide) ?_
                    have hl9 := lv_sub hl [0, 1, 2, 3, 4] (by rfl : lv_pick [(3, .int y_153), (4, .int r_130), (0, .ref a0_), (1, .int x1_), (2, .int x2_)] [0, 1, 2, 3, 4] = [(3, .int y_153), (4, .int r_130), (0, .ref a0_), (1, .int x1_), (2, .int x2_)])
                    have g9 := g.sub (fx' := [(12, 0, q0_, .int x_6), (14, 1, a0_, .ref q0_)]) [1, 2] rfl
                    exact ih40  y_153 r_130 (bd_sub b_154 (by decide)) h_131 (by have h9_0 := b_154; unfold bd at h9_0; have h9_1 := bv40_3; unfold bd at h9_1; have h9_2 := bv40_4; unfold bd at h9_2; have h9_3 := h_131; unfold bd at h9_3; have h9_4 := kb_0; unfold bd at h9_4; have h9_5 := kb_1; unfold bd at h9_5; have h9_6 := kb_4; unfold bd at h9_6; omega) _ _ _ _ g9 hG_138 hG_142 hG_143 hG_139 ⟨_, hR_145, hr_147⟩ hl9
                  · have fc_151 := nle_f c_151
                    have b_155 : bd 1 2147483647 x_150 := ltR fc_151 kb_0 (bdT x_150) (by decide)
                    refine lv_aload_n hx hb dX14_all_70 rfl (lv_at hl 2 rfl) ?_
                    refine g_getk (C := RX14) (T := TX14) (N := 67) hx hb hts (mc_ inX14) hown hK g rfl 61 (by decide) rfl (hts _ (List.mem_cons_of_mem _ t_2207)) (fun _ h9 => h9) 0 rfl dX14_all_71 ?_
                    subst hQ
                    exact W.iret (v := x_150) hx hb hr (fun t ht hW => ⟨⟨_, _, rfl, ⟨⟨_, hR_145, hr_147⟩, hG_138, (bd_sub b_155 (by decide)), trivial⟩, q3_of g hK ht hW⟩, g.2.2.1.F ht⟩) g.2.2.1.2.2 dX14_all_74
                · have fc_148 := eq_f c_148
                  have b_156 : bd 0 0 r_137 := eqX fc_148 h_141 kb_0 (by decide)
                  refine lv_goto (tgt := 77) hx hb dX14_all_60 (by decide) ?_
                  obtain ⟨y_157, ey_157⟩ : ∃ z : Int32, z = v40_3 + 1 := ⟨_, rfl⟩
                  refine lv_iinc (v := y_157) (lv' := [(3, .int y_157), (4, .int r_130), (0, .ref a0_), (1, .int x1_), (2, .int x2_)]) hx hb dX14_all_77 hl (k := 1) rfl (by rw [ey_157]; rfl) (by decide) rfl (fun ls hl => ?_)
                  have ty_157 := add_bd ey_157 b_128 kb_1 (by decide)
                  have b_158 : bd 3 5 y_157 := add_rg ty_157 b_128 kb_1 (by decide)
                  refine lv_goto (tgt := 40) hx hb dX14_all_80 (by decide) ?_
                  have hl9 := lv_sub hl [0, 1, 2, 3, 4] (by rfl : lv_pick [(3, .int y_157), (4, .int r_130), (0, .ref a0_), (1, .int x1_), (2, .int x2_)] [0, 1, 2, 3, 4] = [(3, .int y_157), (4, .int r_130), (0, .ref a0_), (1, .int x1_), (2, .int x2_)])
                  have g9 := g.sub (fx' := [(12, 0, q0_, .int x_6), (14, 1, a0_, .ref q0_)]) [0, 1] rfl
                  exact ih40  y_157 r_130 (bd_sub b_158 (by decide)) h_131 (by have h9_0 := b_158; unfold bd at h9_0; have h9_1 := bv40_3; unfold bd at h9_1; have h9_2 := bv40_4; unfold bd at h9_2; have h9_3 := h_131; unfold bd at h9_3; have h9_4 := kb_0; unfold bd at h9_4; have h9_5 := kb_1; unfold bd at h9_5; have h9_6 := kb_4; unfold bd at h9_6; omega) _ _ _ _ g9 hG_138 hG_142 hG_143 hG_139 ⟨_, hR_145, hr_147⟩ hl9
          have kb_2 : bd 2 2 (2 : Int32) := ⟨by decide, by decide⟩
          have hl9 := lv_sub hl [0, 1, 2, 3, 4] (by rfl : lv_pick [(3, .int 2), (4, .int r_53), (0, .ref a0_), (1, .int x1_), (2, .int x2_)] [0, 1, 2, 3, 4] = [(3, .int 2), (4, .int r_53), (0, .ref a0_), (1, .int x1_), (2, .int x2_)])
          have g9 := g.sub (fx' := [(12, 0, q0_, .int x_6), (14, 1, a0_, .ref q0_)]) [0, 1] rfl
          exact loop_119 (10) 2 r_53 (bd_sub kb_2 (by decide)) h_54 (by have h9_0 := h_54; unfold bd at h9_0; have h9_1 := kb_0; unfold bd at h9_1; have h9_2 := kb_1; unfold bd at h9_2; have h9_3 := kb_2; unfold bd at h9_3; have h9_4 := kb_4; unfold bd at h9_4; omega) _ _ _ _ g9 hG_60 hG_64 hG_65 hG_61 ⟨_, hR_67, hr_69⟩ hl9
