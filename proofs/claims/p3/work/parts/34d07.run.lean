set_option maxHeartbeats 4000000 in
set_option maxRecDepth 100000 in
theorem r_X14_isTried (l : Launch) (dC : Nat → ClassId) (dI : Nat → Nat → Nat) (L : List Nat) (kd : Nat → Nat) (tys : List (ClassId × FieldType)) (f0 : Nat → va_E) (sz : Nat) (hWT : WT L kd tys f0) (adK adV : Nat → Nat) (a0_ : Nat) (ma0_ : a0_ ∈ L) (ka0_ : kd a0_ = 14) (q0_ : Nat) (mq0_ : q0_ ∈ L) (kq0_ : kd q0_ = 12) (r_ : Int32) (br_ : bd 0 10 r_) (k_ : Int32) (bk_ : bd 0 3 k_) (V_ : PV) (δ_ : Nat → Nat) (hW : wfP V_ δ_) (O_ : Nat → Int32) (RW_ : RW) (hGOa0_ : OA f0 a0_ O_) (hGWa0_ : isW f0 a0_ RW_) (hGVq0_ : isV f0 q0_ V_) (hGmq0_ : mOK f0 q0_ V_) (hrw : rwOK V_ RW_ r_ k_) (hfx : Fs L kd f0 [(14, 1, a0_, .ref q0_), (14, 51, a0_, .int r_), (14, 52, a0_, .int k_)]) : Met l yX14_isTried (.code yX14_isTried cX14_isTried 2 (some .boolean) :: lw_g) ({ frames := 977, cells := 0, slots := 0, locals := 39117 }) (va_Pc [.ref a0_] (P3A (dC, dI) L tys f0 sz adK adV)) (va_Qi (fun (r : Int32) (f : Nat → va_E) => ((oOK f a0_ V_) ∧ r = 0 ∧ Fs L kd f [(14, 53, a0_, .int 0)]) ∨ ((oOK f a0_ V_) ∧ r = 1 ∧ Fs L kd f [(14, 53, a0_, .int 0)])) (Q3 (dC, dI) L kd tys [(14, 30), (14, 31), (14, 32), (14, 33), (14, 34), (14, 35), (14, 36), (14, 37), (14, 38), (14, 39), (14, 40), (14, 45), (14, 53), (14, 55), (14, 58), (14, 59)] [200, 215, 216, 217, 218, 219, 220, 221, 225, 226, 228, 229] f0 sz) (pA L sz)) 0 0 (pA L sz) := by
  refine Met.ofW (cc := cX14_isTried) (maxL := 2) (ret := (some .boolean)) (by decide) rfl ?_
  intro p e s m args below meth c s₁ B hml hv
  obtain ⟨rfl, ⟨hsz, hP, hK, hD0⟩, hAm⟩ := hv
  have hx := B.exec
  have hb := B.bytes
  have hr := B.returns
  have hts := atoms_spec (ws := (.code yX14_isTried cX14_isTried 2 (some .boolean) :: lw_g)) B.pre
  have hown : s.vm.findClass RX14 = some m.cls := findClass_of_methodNamed B.named
  have hlocks := B.notSynchronized
  subst hsz
  have g : G3 (dC, dI) L kd tys s f0 [(14, 30), (14, 31), (14, 32), (14, 33), (14, 34), (14, 35), (14, 36), (14, 37), (14, 38), (14, 39), (14, 40), (14, 45), (14, 53), (14, 55), (14, 58), (14, 59)] [200, 215, 216, 217, 218, 219, 220, 221, 225, 226, 228, 229] f0 s.heap [] [(14, 1, a0_, .ref q0_), (14, 51, a0_, .int r_), (14, 52, a0_, .int k_)] := G3.start hP hD0 hWT hfx
  have hl := lv_entry ([.ref a0_]) (n := 2) (Nat.le_of_ble_eq_true rfl)
  rw [lg_entry_eq]
  generalize (lg_sl ([.ref a0_]) ++ List.replicate (2 - (lg_sl ([.ref a0_])).length) Slot.unset).toArray = ls at hl ⊢
  have hl : lv_has ls 2 [(0, .ref a0_)] := hl
  refine W_q (fun Q hQ => ?_)
  refine lv_aload_n hx hb dX14_isTried_0 rfl (lv_at hl 0 rfl) ?_
  have go_ := g
  refine g_calli (va_runV (As := []) (rest := []) ⟨hx, hb, hml, hown, hts⟩ (r_X14_runRow l dC dI L kd tys f0 s.heap.size g.2.2.2.1 adK adV a0_ ma0_ ka0_ q0_ mq0_ kq0_ r_ br_ k_ bk_ V_ δ_ hW O_ RW_ hGOa0_ hGWa0_ hGVq0_ hGmq0_ hrw (g.fcts [0, 1, 2] rfl)) (cwV 0 hts (gV_ t_2614 t_2616 t_141 t_198 t_2617) rfl rfl rfl (by decide +kernel) ⟨(Nat.le_of_ble_eq_true rfl), (Nat.le_of_ble_eq_true rfl)⟩) (pre3VA g hK hAm ma0_ ka0_ (by decide) (q := (RX14, TX14, 67)) rfl) rfl rfl hl.1 rfl (lv_room (Nat.le_of_ble_eq_true rfl)) dX14_isTried_1 ⟨(Nat.le_of_ble_eq_true rfl), (Nat.le_of_ble_eq_true rfl)⟩) g hK (by decide) (by decide) (fx' := [(14, 1, a0_, .ref q0_), (14, 51, a0_, .int r_), (14, 52, a0_, .int k_)]) rfl (fun r_1 fr_1 H locs hp hMr_1 g => ?_)
  obtain ⟨hx_2, hF_3⟩ := hp
  have hG_4 := isW.frame hMr_1 go_.2.2.2.1 ma0_ ka0_ (by decide) (by decide) hGWa0_
  have hG_5 := isV.frame hMr_1 go_.2.2.2.1 mq0_ kq0_ (by decide) (by decide) hGVq0_
  have hG_6 := mOK.frame hMr_1 go_.2.2.2.1 mq0_ kq0_ (by decide) (by decide) hGmq0_
  have g := g.more hF_3
  refine lv_istore_n (lv' := [(1, .int r_1), (0, .ref a0_)]) hx hb dX14_isTried_4 rfl hl (by decide) rfl (fun ls hl => ?_)
  refine lv_aload_n hx hb dX14_isTried_5 rfl (lv_at hl 1 rfl) ?_
  refine lv_dup hx hb dX14_isTried_6 rfl ?_
  refine g_geti (C := RX14) (T := TX14) (N := 67) hx hb hts (mc_ inX14) hown hK g ma0_ ka0_ (by decide) rfl 58 (by decide) rfl (hts _ (List.mem_cons_of_mem _ t_2204)) (fun _ h9 => h9) rfl dX14_isTried_7 (fun x_7 bx_7 g => ?_)
  refine lv_iconst (v := 1) hx hb dX14_isTried_10 (by decide) ?_
  have kb_1 : bd 1 1 (1 : Int32) := ⟨by decide, by decide⟩
  refine lv_iadd hx hb dX14_isTried_11 ?_
  refine lv_topi (fun y_8 ey_8 => ?_)
  have go_ := g
  refine g_put (C := RX14) (T := TX14) (N := 67) hx hb hts (mc_ inX14) tyX14 tyX14_ok nmX14 hown hK g ma0_ ka0_ (by decide) rfl 58 (by decide) (hts _ (List.mem_cons_of_mem _ t_2204)) (fun _ h9 => h9) rfl rfl (okV_i (bdT y_8)) rfl rfl (by decide) (Or.inr (Or.inl (by decide))) (fx' := [(14, 53, a0_, .int 0), (14, 1, a0_, .ref q0_), (14, 51, a0_, .int r_), (14, 52, a0_, .int k_)]) rfl dX14_isTried_12 (fun f H locs hM_9 g => ?_)
  have hG_10 := isW.frame hM_9 go_.2.2.2.1 ma0_ ka0_ (by decide) (by decide) hG_4
  have hG_11 := isV.frame hM_9 go_.2.2.2.1 mq0_ kq0_ (by decide) (by decide) hG_5
  have hG_12 := mOK.frame hM_9 go_.2.2.2.1 mq0_ kq0_ (by decide) (by decide) hG_6
  have hG_13 := oOK.frame hM_9 go_.2.2.2.1 ma0_ ka0_ (by decide) (by decide) hx_2
  refine lv_aload_n hx hb dX14_isTried_15 rfl (lv_at hl 1 rfl) ?_
  refine lv_dup hx hb dX14_isTried_16 rfl ?_
  refine g_geti (C := RX14) (T := TX14) (N := 67) hx hb hts (mc_ inX14) hown hK g ma0_ ka0_ (by decide) rfl 59 (by decide) rfl (hts _ (List.mem_cons_of_mem _ t_2205)) (fun _ h9 => h9) rfl dX14_isTried_17 (fun x_14 bx_14 g => ?_)
  refine lv_iload_n hx hb dX14_isTried_20 rfl (lv_at hl 0 rfl) ?_
  refine lv_iconst (v := (-1)) hx hb dX14_isTried_21 (by decide) ?_
  have kb_m1 : bd (-1) (-1) ((-1) : Int32) := ⟨by decide, by decide⟩
  refine lv_icmp_ne (tgt := 29) hx hb dX14_isTried_22 (by decide) (fun c_15 => ?_) (fun c_15 => ?_)
  · have fc_15 := neq_f c_15
    refine lv_iconst (v := 0) hx hb dX14_isTried_29 (by decide) ?_
    have kb_0 : bd 0 0 (0 : Int32) := ⟨by decide, by decide⟩
    refine lv_iadd hx hb dX14_isTried_30 ?_
    refine lv_topi (fun y_16 ey_16 => ?_)
    have ty_16 := add_bd ey_16 (bdT x_14) kb_0 (by decide)
    have b_17 : bd (-2147483648) 2147483647 y_16 := add_rg ty_16 (bdT x_14) kb_0 (by decide)
    have go_ := g
    refine g_put (C := RX14) (T := TX14) (N := 67) hx hb hts (mc_ inX14) tyX14 tyX14_ok nmX14 hown hK g ma0_ ka0_ (by decide) rfl 59 (by decide) (hts _ (List.mem_cons_of_mem _ t_2205)) (fun _ h9 => h9) rfl rfl (okV_i b_17) rfl rfl (by decide) (Or.inr (Or.inl (by decide))) (fx' := [(14, 58, a0_, .int y_8), (14, 53, a0_, .int 0), (14, 1, a0_, .ref q0_), (14, 51, a0_, .int r_), (14, 52, a0_, .int k_)]) rfl dX14_isTried_31 (fun f H locs hM_18 g => ?_)
    have hG_19 := isW.frame hM_18 go_.2.2.2.1 ma0_ ka0_ (by decide) (by decide) hG_10
    have hG_20 := isV.frame hM_18 go_.2.2.2.1 mq0_ kq0_ (by decide) (by decide) hG_11
    have hG_21 := mOK.frame hM_18 go_.2.2.2.1 mq0_ kq0_ (by decide) (by decide) hG_12
    have hG_22 := oOK.frame hM_18 go_.2.2.2.1 ma0_ ka0_ (by decide) (by decide) hG_13
    refine lv_iload_n hx hb dX14_isTried_34 rfl (lv_at hl 0 rfl) ?_
    refine lv_if_le (tgt := 42) hx hb dX14_isTried_35 (by decide) (fun c_23 => ?_) (fun c_23 => ?_)
    · have fc_23 := le_f c_23
      have b_24 : bd (-2147483648) 0 r_1 := leL fc_23 (bdT r_1) kb_0 (by decide)
      refine lv_iconst (v := 0) hx hb dX14_isTried_42 (by decide) ?_
      subst hQ
      exact W.zret (v := 0) hx hb hr (nar_z (bd_sub kb_0 (by decide) : bd 0 1 _).1 (bd_sub kb_0 (by decide) : bd 0 1 _).2) (fun t ht hW => ⟨⟨_, _, rfl, Or.inl ⟨hG_22, rfl, (g.fcts [2] rfl)⟩, q3_of g hK ht hW⟩, g.2.2.1.F ht⟩) g.2.2.1.2.2 dX14_isTried_43
    · have fc_23 := nle_f c_23
      have b_25 : bd 1 2147483647 r_1 := ltR fc_23 kb_0 (bdT r_1) (by decide)
      refine lv_iconst (v := 1) hx hb dX14_isTried_38 (by decide) ?_
      refine lv_goto (tgt := 43) hx hb dX14_isTried_39 (by decide) ?_
      subst hQ
      exact W.zret (v := 1) hx hb hr (nar_z (bd_sub kb_1 (by decide) : bd 0 1 _).1 (bd_sub kb_1 (by decide) : bd 0 1 _).2) (fun t ht hW => ⟨⟨_, _, rfl, Or.inr (⟨hG_22, rfl, (g.fcts [2] rfl)⟩), q3_of g hK ht hW⟩, g.2.2.1.F ht⟩) g.2.2.1.2.2 dX14_isTried_43
  · have fc_15 := eq_f c_15
    have b_26 : bd (-1) (-1) r_1 := eqX fc_15 (bdT r_1) kb_m1 (by decide)
    refine lv_iconst (v := 1) hx hb dX14_isTried_25 (by decide) ?_
    refine lv_goto (tgt := 30) hx hb dX14_isTried_26 (by decide) ?_
    refine lv_iadd hx hb dX14_isTried_30 ?_
    refine lv_topi (fun y_27 ey_27 => ?_)
    have go_ := g
    refine g_put (C := RX14) (T := TX14) (N := 67) hx hb hts (mc_ inX14) tyX14 tyX14_ok nmX14 hown hK g ma0_ ka0_ (by decide) rfl 59 (by decide) (hts _ (List.mem_cons_of_mem _ t_2205)) (fun _ h9 => h9) rfl rfl (okV_i (bdT y_27)) rfl rfl (by decide) (Or.inr (Or.inl (by decide))) (fx' := [(14, 58, a0_, .int y_8), (14, 53, a0_, .int 0), (14, 1, a0_, .ref q0_), (14, 51, a0_, .int r_), (14, 52, a0_, .int k_)]) rfl dX14_isTried_31 (fun f H locs hM_28 g => ?_)
    have hG_29 := isW.frame hM_28 go_.2.2.2.1 ma0_ ka0_ (by decide) (by decide) hG_10
    have hG_30 := isV.frame hM_28 go_.2.2.2.1 mq0_ kq0_ (by decide) (by decide) hG_11
    have hG_31 := mOK.frame hM_28 go_.2.2.2.1 mq0_ kq0_ (by decide) (by decide) hG_12
    have hG_32 := oOK.frame hM_28 go_.2.2.2.1 ma0_ ka0_ (by decide) (by decide) hG_13
    refine lv_iload_n hx hb dX14_isTried_34 rfl (lv_at hl 0 rfl) ?_
    have kb_0 : bd 0 0 (0 : Int32) := ⟨by decide, by decide⟩
    refine lv_if_le (tgt := 42) hx hb dX14_isTried_35 (by decide) (fun c_33 => ?_) (fun c_33 => ?_)
    · have fc_33 := le_f c_33
      refine lv_iconst (v := 0) hx hb dX14_isTried_42 (by decide) ?_
      subst hQ
      exact W.zret (v := 0) hx hb hr (nar_z (bd_sub kb_0 (by decide) : bd 0 1 _).1 (bd_sub kb_0 (by decide) : bd 0 1 _).2) (fun t ht hW => ⟨⟨_, _, rfl, Or.inl ⟨hG_32, rfl, (g.fcts [2] rfl)⟩, q3_of g hK ht hW⟩, g.2.2.1.F ht⟩) g.2.2.1.2.2 dX14_isTried_43
    · have fc_33 := nle_f c_33
      have b_34 : bd 0 (-2) (0 : Int32) := ltL fc_33 kb_0 b_26 (by decide)
      exact bd_no (eqX rfl b_34 kb_0 (lo := 0) (hi := (-2)) (by decide)) (by decide)
set_option maxHeartbeats 4000000 in
set_option maxRecDepth 100000 in
theorem r_X14_draw (l : Launch) (dC : Nat → ClassId) (dI : Nat → Nat → Nat) (L : List Nat) (kd : Nat → Nat) (tys : List (ClassId × FieldType)) (f0 : Nat → va_E) (sz : Nat) (hWT : WT L kd tys f0) (adK adV : Nat → Nat) (a0_ : Nat) (ma0_ : a0_ ∈ L) (ka0_ : kd a0_ = 14) (x1_ : Int32) (x2_ : Int32) (x3_ : Int32) (q0_ : Nat) (mq0_ : q0_ ∈ L) (kq0_ : kd q0_ = 12) (V_ : PV) (δ_ : Nat → Nat) (hW : wfP V_ δ_) (hGoa0_ : oOK f0 a0_ V_) (hGwa0_ : rOK f0 a0_ V_) (hGVq0_ : isV f0 q0_ V_) (hGmq0_ : mOK f0 q0_ V_) (hfx : Fs L kd f0 [(14, 1, a0_, .ref q0_)]) : Met l yX14_draw (.code yX14_draw cX14_draw 5 (some .int) :: lw_g) ({ frames := 978, cells := 0, slots := 0, locals := 39138 }) (va_Pc [.ref a0_, .int x1_, .int x2_, .int x3_] (P3A (dC, dI) L tys f0 sz adK adV)) (va_Qi (fun (r : Int32) (f : Nat → va_E) => ((rOK f a0_ V_) ∧ (oOK f a0_ V_) ∧ True)) (Q3 (dC, dI) L kd tys [(14, 30), (14, 31), (14, 32), (14, 33), (14, 34), (14, 35), (14, 36), (14, 37), (14, 38), (14, 39), (14, 40), (14, 45), (14, 51), (14, 52), (14, 53), (14, 55), (14, 58), (14, 59), (14, 60)] [200, 215, 216, 217, 218, 219, 220, 221, 222, 223, 224, 225, 226, 227, 228, 229] f0 sz) (pA L sz)) 0 0 (pA L sz) := by
  refine Met.ofW (cc := cX14_draw) (maxL := 5) (ret := (some .int)) (by decide) rfl ?_
  intro p e s m args below meth c s₁ B hml hv
  obtain ⟨rfl, ⟨hsz, hP, hK, hD0⟩, hAm⟩ := hv
  have hx := B.exec
  have hb := B.bytes
  have hr := B.returns
  have hts := atoms_spec (ws := (.code yX14_draw cX14_draw 5 (some .int) :: lw_g)) B.pre
  have hown : s.vm.findClass RX14 = some m.cls := findClass_of_methodNamed B.named
  have hlocks := B.notSynchronized
  subst hsz
  have g : G3 (dC, dI) L kd tys s f0 [(14, 30), (14, 31), (14, 32), (14, 33), (14, 34), (14, 35), (14, 36), (14, 37), (14, 38), (14, 39), (14, 40), (14, 45), (14, 51), (14, 52), (14, 53), (14, 55), (14, 58), (14, 59), (14, 60)] [200, 215, 216, 217, 218, 219, 220, 221, 222, 223, 224, 225, 226, 227, 228, 229] f0 s.heap [] [(14, 1, a0_, .ref q0_)] := G3.start hP hD0 hWT hfx
  have hl := lv_entry ([.ref a0_, .int x1_, .int x2_, .int x3_]) (n := 5) (Nat.le_of_ble_eq_true rfl)
  rw [lg_entry_eq]
  generalize (lg_sl ([.ref a0_, .int x1_, .int x2_, .int x3_]) ++ List.replicate (5 - (lg_sl ([.ref a0_, .int x1_, .int x2_, .int x3_])).length) Slot.unset).toArray = ls at hl ⊢
  have hl : lv_has ls 5 [(0, .ref a0_), (1, .int x1_), (2, .int x2_), (3, .int x3_)] := hl
  refine W_q (fun Q hQ => ?_)
  refine lv_aload_n hx hb dX14_draw_0 rfl (lv_at hl 0 rfl) ?_
  refine lv_iload_n hx hb dX14_draw_1 rfl (lv_at hl 1 rfl) ?_
  have go_ := g
  refine g_calli (va_runV (As := [.int x1_]) (rest := []) ⟨hx, hb, hml, hown, hts⟩ (r_X14_isClass_2 l dC dI L kd tys f0 s.heap.size g.2.2.2.1 a0_ ma0_ ka0_ x1_ q0_ mq0_ kq0_ V_ δ_ hW hGVq0_ (g.fcts [0] rfl)) (cwV 1 hts (gV_ t_2574 t_2576 t_137 t_198 t_2577) rfl rfl rfl (by decide +kernel) ⟨(Nat.le_of_ble_eq_true rfl), (Nat.le_of_ble_eq_true rfl)⟩) (pre3V g hK ma0_ ka0_ (by decide) (q := (RX14, TX14, 67)) rfl) rfl rfl hl.1 rfl (lv_room (Nat.le_of_ble_eq_true rfl)) dX14_draw_2 ⟨(Nat.le_of_ble_eq_true rfl), (Nat.le_of_ble_eq_true rfl)⟩) g hK (by decide) (by decide) (fx' := [(14, 1, a0_, .ref q0_)]) rfl (fun r_1 fr_1 H locs hp hMr_1 g => ?_)
  rcases hp with ⟨h_2, -⟩ | ⟨hx_3, h_4, h_5, x_6, h_7, hF_8⟩
  · have hG_9 := oOK.frame hMr_1 go_.2.2.2.1 ma0_ ka0_ (by decide) (by decide) hGoa0_
    have hG_10 := rOK.frame hMr_1 go_.2.2.2.1 ma0_ ka0_ (by decide) (by decide) hGwa0_
    have hG_11 := isV.frame hMr_1 go_.2.2.2.1 mq0_ kq0_ (by decide) (by decide) hGVq0_
    have hG_12 := mOK.frame hMr_1 go_.2.2.2.1 mq0_ kq0_ (by decide) (by decide) hGmq0_
    obtain rfl : r_1 = 0 := h_2
    refine lv_if_eq (tgt := 20) hx hb dX14_draw_5 (by decide) (fun c_ => ?_) (fun c_ => absurd (by decide) c_)
    refine lv_bipush (v := (-2)) hx hb dX14_draw_20 (by decide) ?_
    subst hQ
    exact W.iret (v := (-2)) hx hb hr (fun t ht hW => ⟨⟨_, _, rfl, ⟨hG_10, hG_9, trivial⟩, q3_of g hK ht hW⟩, g.2.2.1.F ht⟩) g.2.2.1.2.2 dX14_draw_22
  · have hG_13 := oOK.frame hMr_1 go_.2.2.2.1 ma0_ ka0_ (by decide) (by decide) hGoa0_
    have hG_14 := rOK.frame hMr_1 go_.2.2.2.1 ma0_ ka0_ (by decide) (by decide) hGwa0_
    have hG_15 := isV.frame hMr_1 go_.2.2.2.1 mq0_ kq0_ (by decide) (by decide) hGVq0_
    have hG_16 := mOK.frame hMr_1 go_.2.2.2.1 mq0_ kq0_ (by decide) (by decide) hGmq0_
    obtain rfl : r_1 = 1 := h_4
    have b_17 : bd 0 7 x1_ := eqX rfl (bdT x1_) h_5 (by decide)
    have g := g.more hF_8
    refine lv_if_eq (tgt := 20) hx hb dX14_draw_5 (by decide) (fun c_ => absurd c_ (by decide)) (fun c_ => ?_)
    refine lv_iload_n hx hb dX14_draw_8 rfl (lv_at hl 3 rfl) ?_
    refine lv_i2l hx hb dX14_draw_9 rfl ?_
    refine lv_topl (fun y_18 ey_18 => ?_)
    refine lv_lconst (v := 1) hx hb dX14_draw_10 (by decide) ?_
    refine lv_ldc2 (v := 100) hx hb hown (hts _ (List.mem_cons_of_mem _ t_2728)) dX14_draw_11 ?_
    have go_ := g
    refine g_calli (va_runS (As := [.long y_18, .long 1, .long 100]) (rest := []) ⟨hx, hb, hml, hown, hts⟩ (r_X14_in l dC dI L kd tys fr_1 H.size g.2.2.2.1 y_18 1 100) (va_cwS 3 hts (gS_ t_2448 t_2449 t_198 t_2450) rfl rfl rfl (by decide +kernel) ⟨(Nat.le_of_ble_eq_true rfl), (Nat.le_of_ble_eq_true rfl)⟩) (pre3S g hK) rfl rfl hl.1 rfl (lv_room (Nat.le_of_ble_eq_true rfl)) dX14_draw_14 ⟨(Nat.le_of_ble_eq_true rfl), (Nat.le_of_ble_eq_true rfl)⟩) g hK (by decide) (by decide) (fx' := [(12, 0, q0_, .int x_6), (14, 1, a0_, .ref q0_)]) rfl (fun r_19 fr_19 H locs hp hMr_19 g => ?_)
    rcases hp with ⟨hx_20, h_21, -⟩ | ⟨h_22, h_23, -⟩
    · have hG_24 := oOK.frame hMr_19 go_.2.2.2.1 ma0_ ka0_ (by decide) (by decide) hG_13
      have hG_25 := rOK.frame hMr_19 go_.2.2.2.1 ma0_ ka0_ (by decide) (by decide) hG_14
      have hG_26 := isV.frame hMr_19 go_.2.2.2.1 mq0_ kq0_ (by decide) (by decide) hG_15
      have hG_27 := mOK.frame hMr_19 go_.2.2.2.1 mq0_ kq0_ (by decide) (by decide) hG_16
      obtain rfl : r_19 = 0 := h_21
      refine lv_if_ne (tgt := 23) hx hb dX14_draw_17 (by decide) (fun c_ => absurd c_ (by decide)) (fun c_ => ?_)
      refine lv_bipush (v := (-2)) hx hb dX14_draw_20 (by decide) ?_
      subst hQ
      exact W.iret (v := (-2)) hx hb hr (fun t ht hW => ⟨⟨_, _, rfl, ⟨hG_25, hG_24, trivial⟩, q3_of g hK ht hW⟩, g.2.2.1.F ht⟩) g.2.2.1.2.2 dX14_draw_22
    · have hG_28 := oOK.frame hMr_19 go_.2.2.2.1 ma0_ ka0_ (by decide) (by decide) hG_13
      have hG_29 := rOK.frame hMr_19 go_.2.2.2.1 ma0_ ka0_ (by decide) (by decide) hG_14
      have hG_30 := isV.frame hMr_19 go_.2.2.2.1 mq0_ kq0_ (by decide) (by decide) hG_15
      have hG_31 := mOK.frame hMr_19 go_.2.2.2.1 mq0_ kq0_ (by decide) (by decide) hG_16
      obtain rfl : r_19 = 1 := h_22
      have f_32 : (1 : Int32).toInt ≤ x3_.toInt := in_le h_23.1 (in_k (k := 1) (by decide) (by decide)) (in_v ey_18)
      have f_33 : x3_.toInt ≤ (100 : Int32).toInt := in_le h_23.2 (in_v ey_18) (in_k (k := 100) (by decide) (by decide))
      have kb_1 : bd 1 1 (1 : Int32) := ⟨by decide, by decide⟩
      have b_34 : bd 1 2147483647 x3_ := leR f_32 kb_1 (bdT x3_) (by decide)
      have kb_100 : bd 100 100 (100 : Int32) := ⟨by decide, by decide⟩
      have b_35 : bd 1 100 x3_ := leL f_33 b_34 kb_100 (by decide)
      refine lv_if_ne (tgt := 23) hx hb dX14_draw_17 (by decide) (fun c_ => ?_) (fun c_ => absurd c_ (by decide))
      refine lv_aload_n hx hb dX14_draw_23 rfl (lv_at hl 0 rfl) ?_
      refine lv_iconst (v := 0) hx hb dX14_draw_24 (by decide) ?_
      have kb_0 : bd 0 0 (0 : Int32) := ⟨by decide, by decide⟩
      have go_ := g
      refine g_put (C := RX14) (T := TX14) (N := 67) hx hb hts (mc_ inX14) tyX14 tyX14_ok nmX14 hown hK g ma0_ ka0_ (by decide) rfl 58 (by decide) (hts _ (List.mem_cons_of_mem _ t_2204)) (fun _ h9 => h9) rfl rfl (okV_i (bd_sub kb_0 (by decide))) rfl rfl (by decide) (Or.inr (Or.inl (by decide))) (fx' := [(12, 0, q0_, .int x_6), (14, 1, a0_, .ref q0_)]) rfl dX14_draw_25 (fun f H locs hM_36 g => ?_)
      have hG_37 := oOK.frame hM_36 go_.2.2.2.1 ma0_ ka0_ (by decide) (by decide) hG_28
      have hG_38 := rOK.frame hM_36 go_.2.2.2.1 ma0_ ka0_ (by decide) (by decide) hG_29
      have hG_39 := isV.frame hM_36 go_.2.2.2.1 mq0_ kq0_ (by decide) (by decide) hG_30
      have hG_40 := mOK.frame hM_36 go_.2.2.2.1 mq0_ kq0_ (by decide) (by decide) hG_31
      refine lv_aload_n hx hb dX14_draw_28 rfl (lv_at hl 0 rfl) ?_
      refine lv_iconst (v := 0) hx hb dX14_draw_29 (by decide) ?_
      have go_ := g
      refine g_put (C := RX14) (T := TX14) (N := 67) hx hb hts (mc_ inX14) tyX14 tyX14_ok nmX14 hown hK g ma0_ ka0_ (by decide) rfl 59 (by decide) (hts _ (List.mem_cons_of_mem _ t_2205)) (fun _ h9 => h9) rfl rfl (okV_i (bd_sub kb_0 (by decide))) rfl rfl (by decide) (Or.inr (Or.inl (by decide))) (fx' := [(14, 58, a0_, .int 0), (12, 0, q0_, .int x_6), (14, 1, a0_, .ref q0_)]) rfl dX14_draw_30 (fun f H locs hM_41 g => ?_)
      have hG_42 := oOK.frame hM_41 go_.2.2.2.1 ma0_ ka0_ (by decide) (by decide) hG_37
      have hG_43 := rOK.frame hM_41 go_.2.2.2.1 ma0_ ka0_ (by decide) (by decide) hG_38
      have hG_44 := isV.frame hM_41 go_.2.2.2.1 mq0_ kq0_ (by decide) (by decide) hG_39
      have hG_45 := mOK.frame hM_41 go_.2.2.2.1 mq0_ kq0_ (by decide) (by decide) hG_40
      refine lv_iconst (v := 0) hx hb dX14_draw_33 (by decide) ?_
      refine lv_istore (lv' := [(4, .int 0), (0, .ref a0_), (1, .int x1_), (2, .int x2_), (3, .int x3_)]) hx hb dX14_draw_34 hl (by decide) rfl (fun ls hl => ?_)
      have loop_46 : ∀ (n : Nat) (v36_4 : Int32), bd 0 100 v36_4 → (100 - v36_4.toInt < (n : Int)) → ∀ (f : Nat → va_E) (H : Heap) (locs : List Loc) (ls : Array Slot), G3 (dC, dI) L kd tys s f0 [(14, 30), (14, 31), (14, 32), (14, 33), (14, 34), (14, 35), (14, 36), (14, 37), (14, 38), (14, 39), (14, 40), (14, 45), (14, 51), (14, 52), (14, 53), (14, 55), (14, 58), (14, 59), (14, 60)] [200, 215, 216, 217, 218, 219, 220, 221, 222, 223, 224, 225, 226, 227, 228, 229] f H locs [(12, 0, q0_, .int x_6), (14, 1, a0_, .ref q0_)] → oOK f a0_ V_ → rOK f a0_ V_ → isV f q0_ V_ → mOK f q0_ V_ → lv_has ls 5 [(4, .int v36_4), (0, .ref a0_), (1, .int x1_), (2, .int x2_), (3, .int x3_)] → W p l e ({ frames := 978, cells := 0, slots := 0, locals := 39138 } : Room) s m [.ref a0_, .int x1_, .int x2_, .int x3_].toArray below meth c H locs 0 0 Q (F0 m 36 ls []) := by
        intro n36
        induction n36 with
        | zero =>
          intro v36_4 bv36_4 hm36 f H locs ls g hG36_o_a0_ hG36_w_a0_ hG36_V_q0_ hG36_m_q0_ hl
          exact absurd hm36 (by have h9_v36_4 := bv36_4; unfold bd at h9_v36_4; omega)
        | succ n36 ih36 =>
          intro v36_4 bv36_4 hm36 f H locs ls g hG36_o_a0_ hG36_w_a0_ hG36_V_q0_ hG36_m_q0_ hl
          refine lv_iload hx hb dX14_draw_36 (lv_at hl 0 rfl) ?_
          refine lv_iload_n hx hb dX14_draw_38 rfl (lv_at hl 4 rfl) ?_
          refine lv_icmp_ge (tgt := 77) hx hb dX14_draw_39 (by decide) (fun c_47 => ?_) (fun c_47 => ?_)
          · have fc_47 := le_f c_47
            have b_48 : bd 1 100 v36_4 := leR fc_47 b_35 bv36_4 (by decide)
            refine lv_iconst (v := 0) hx hb dX14_draw_77 (by decide) ?_
            subst hQ
            exact W.iret (v := 0) hx hb hr (fun t ht hW => ⟨⟨_, _, rfl, ⟨hG36_w_a0_, hG36_o_a0_, trivial⟩, q3_of g hK ht hW⟩, g.2.2.1.F ht⟩) g.2.2.1.2.2 dX14_draw_78
          · have fc_47 := nle_f c_47
            have b_49 : bd 0 99 v36_4 := ltL fc_47 bv36_4 b_35 (by decide)
            refine lv_aload_n hx hb dX14_draw_42 rfl (lv_at hl 1 rfl) ?_
            refine lv_iload_n hx hb dX14_draw_43 rfl (lv_at hl 3 rfl) ?_
            refine lv_sipush (v := 7919) hx hb dX14_draw_44 (by decide) ?_
            refine lv_iload hx hb dX14_draw_47 (lv_at hl 0 rfl) ?_
            refine lv_imul hx hb dX14_draw_49 ?_
            refine lv_topi (fun y_50 ey_50 => ?_)
            have ty_50 := cmul_bd ey_50 (c := 7919) (by decide) b_49 (by decide)
            have b_51 : bd 0 783981 y_50 := mulc_rg ty_50 b_49 (by decide)
            refine lv_iadd hx hb dX14_draw_50 ?_
            refine lv_topi (fun y_52 ey_52 => ?_)
            have go_ := g
            refine g_put (C := RX14) (T := TX14) (N := 67) hx hb hts (mc_ inX14) tyX14 tyX14_ok nmX14 hown hK g ma0_ ka0_ (by decide) rfl 60 (by decide) (hts _ (List.mem_cons_of_mem _ t_2206)) (fun _ h9 => h9) rfl rfl (okV_i (bdT y_52)) rfl rfl (by decide) (Or.inr (Or.inl (by decide))) (fx' := [(12, 0, q0_, .int x_6), (14, 1, a0_, .ref q0_)]) rfl dX14_draw_51 (fun f H locs hM_53 g => ?_)
            have hG_54 := oOK.frame hM_53 go_.2.2.2.1 ma0_ ka0_ (by decide) (by decide) hG36_o_a0_
            have hG_55 := rOK.frame hM_53 go_.2.2.2.1 ma0_ ka0_ (by decide) (by decide) hG36_w_a0_
            have hG_56 := isV.frame hM_53 go_.2.2.2.1 mq0_ kq0_ (by decide) (by decide) hG36_V_q0_
            have hG_57 := mOK.frame hM_53 go_.2.2.2.1 mq0_ kq0_ (by decide) (by decide) hG36_m_q0_
            refine lv_aload_n hx hb dX14_draw_54 rfl (lv_at hl 1 rfl) ?_
            refine lv_iload_n hx hb dX14_draw_55 rfl (lv_at hl 2 rfl) ?_
            obtain ⟨x_58, bx_58, g⟩ := g_facti g ma0_ ka0_ (by decide) 51 rfl
            obtain ⟨x_59, bx_59, g⟩ := g_facti g ma0_ ka0_ (by decide) 52 rfl
            obtain ⟨R_60, hR_61, hrw_62⟩ := (id hG_55)
            have hrw_62 := hrw_62 x_58 x_59 (fx_at g (i := 1) rfl).2.2.2 (fx_at g (i := 0) rfl).2.2.2
            have go_ := g
            refine g_callv (va_runV (As := [.int x1_]) (rest := []) ⟨hx, hb, hml, hown, hts⟩ (r_X14_drawRow l dC dI L kd tys f H.size g.2.2.2.1 a0_ ma0_ ka0_ x1_ b_17 q0_ mq0_ kq0_ V_ δ_ hW R_60 hR_61 hG_56 hx_3 (g.fcts [4] rfl)) (cwV 1 hts (gV_ t_2729 t_2731 t_168 t_198 t_2732) rfl rfl rfl (by decide +kernel) ⟨(Nat.le_of_ble_eq_true rfl), (Nat.le_of_ble_eq_true rfl)⟩) (pre3V g hK ma0_ ka0_ (by decide) (q := (RX14, TX14, 67)) rfl) rfl rfl hl.1 rfl (lv_room (Nat.le_of_ble_eq_true rfl)) dX14_draw_56 ⟨(Nat.le_of_ble_eq_true rfl), (Nat.le_of_ble_eq_true rfl)⟩) g hK (by decide) (by decide) (fx' := [(12, 0, q0_, .int x_6), (14, 1, a0_, .ref q0_)]) rfl (fun fr_63 H locs hp hMr_63 g => ?_)
            obtain ⟨hx_64, x_65, h_66, x_67, h_68, hF_69⟩ := hp
            have hG_70 := oOK.frame hMr_63 go_.2.2.2.1 ma0_ ka0_ (by decide) (by decide) hG_54
            have hG_71 := isV.frame hMr_63 go_.2.2.2.1 mq0_ kq0_ (by decide) (by decide) hG_56
            have hG_72 := mOK.frame hMr_63 go_.2.2.2.1 mq0_ kq0_ (by decide) (by decide) hG_57
            have g := g.more hF_69
            refine lv_aload_n hx hb dX14_draw_59 rfl (lv_at hl 1 rfl) ?_
            obtain ⟨R_73, hR_74, hrw_75⟩ := (id hx_64)
            have hrw_75 := hrw_75 x_65 x_67 (fx_at g (i := 0) rfl).2.2.2 (fx_at g (i := 1) rfl).2.2.2
            have go_ := g
            refine g_calli (va_runV (As := []) (rest := []) ⟨hx, hb, hml, hown, hts⟩ (r_X14_isTried l dC dI L kd tys fr_63 H.size g.2.2.2.1 adK adV a0_ ma0_ ka0_ q0_ mq0_ kq0_ x_65 (bd_sub h_66 (by decide)) x_67 (bd_sub h_68 (by decide)) V_ δ_ hW (fun j => aI fr_63 (rf fr_63 a0_ 27) j) R_73 OA.refl hR_74 hG_71 hG_72 hrw_75 (g.fcts [4, 0, 1] rfl)) (cwV 0 hts (gV_ t_2743 t_2745 t_171 t_198 t_2746) rfl rfl rfl (by decide +kernel) ⟨(Nat.le_of_ble_eq_true rfl), (Nat.le_of_ble_eq_true rfl)⟩) (pre3VA g hK hAm ma0_ ka0_ (by decide) (q := (RX14, TX14, 67)) rfl) rfl rfl hl.1 rfl (lv_room (Nat.le_of_ble_eq_true rfl)) dX14_draw_60 ⟨(Nat.le_of_ble_eq_true rfl), (Nat.le_of_ble_eq_true rfl)⟩) g hK (by decide) (by decide) (fx' := [(14, 51, a0_, .int x_65), (14, 52, a0_, .int x_67), (12, 0, q0_, .int x_6), (14, 1, a0_, .ref q0_)]) rfl (fun r_76 fr_76 H locs hp hMr_76 g => ?_)
            rcases hp with ⟨hx_77, h_78, hF_79⟩ | ⟨hx_80, h_81, hF_82⟩
            · have hG_83 := isV.frame hMr_76 go_.2.2.2.1 mq0_ kq0_ (by decide) (by decide) hG_71
              have hG_84 := mOK.frame hMr_76 go_.2.2.2.1 mq0_ kq0_ (by decide) (by decide) hG_72
              have hG_85 := rOK.frame hMr_76 go_.2.2.2.1 ma0_ ka0_ (by decide) (by decide) hx_64
              have hG_86 := isW.frame hMr_76 go_.2.2.2.1 ma0_ ka0_ (by decide) (by decide) hR_74
              obtain rfl : r_76 = 0 := h_78
              have g := g.more hF_79
              refine lv_if_eq (tgt := 71) hx hb dX14_draw_63 (by decide) (fun c_ => ?_) (fun c_ => absurd (by decide) c_)
              obtain ⟨y_87, ey_87⟩ : ∃ z : Int32, z = v36_4 + 1 := ⟨_, rfl⟩
              refine lv_iinc (v := y_87) (lv' := [(4, .int y_87), (0, .ref a0_), (1, .int x1_), (2, .int x2_), (3, .int x3_)]) hx hb dX14_draw_71 hl (k := 0) rfl (by rw [ey_87]; rfl) (by decide) rfl (fun ls hl => ?_)
              have ty_87 := add_bd ey_87 b_49 kb_1 (by decide)
              have b_88 : bd 1 100 y_87 := add_rg ty_87 b_49 kb_1 (by decide)
              refine lv_goto (tgt := 36) hx hb dX14_draw_74 (by decide) ?_
              have hl9 := lv_sub hl [0, 1, 2, 3, 4] (by rfl : lv_pick [(4, .int y_87), (0, .ref a0_), (1, .int x1_), (2, .int x2_), (3, .int x3_)] [0, 1, 2, 3, 4] = [(4, .int y_87), (0, .ref a0_), (1, .int x1_), (2, .int x2_), (3, .int x3_)])
              have g9 := g.sub (fx' := [(12, 0, q0_, .int x_6), (14, 1, a0_, .ref q0_)]) [3, 4] rfl
              exact ih36  y_87 (bd_sub b_88 (by decide)) (by have h9_0 := b_88; unfold bd at h9_0; have h9_1 := bv36_4; unfold bd at h9_1; have h9_2 := kb_0; unfold bd at h9_2; have h9_3 := kb_1; unfold bd at h9_3; have h9_4 := kb_100; unfold bd at h9_4; omega) _ _ _ _ g9 hx_77 hG_85 hG_83 hG_84 hl9
            · have hG_89 := isV.frame hMr_76 go_.2.2.2.1 mq0_ kq0_ (by decide) (by decide) hG_71
              have hG_90 := mOK.frame hMr_76 go_.2.2.2.1 mq0_ kq0_ (by decide) (by decide) hG_72
              have hG_91 := rOK.frame hMr_76 go_.2.2.2.1 ma0_ ka0_ (by decide) (by decide) hx_64
              have hG_92 := isW.frame hMr_76 go_.2.2.2.1 ma0_ ka0_ (by decide) (by decide) hR_74
              obtain rfl : r_76 = 1 := h_81
              have g := g.more hF_82
              refine lv_if_eq (tgt := 71) hx hb dX14_draw_63 (by decide) (fun c_ => absurd c_ (by decide)) (fun c_ => ?_)
              refine lv_aload_n hx hb dX14_draw_66 rfl (lv_at hl 1 rfl) ?_
              refine g_geti (C := RX14) (T := TX14) (N := 67) hx hb hts (mc_ inX14) hown hK g ma0_ ka0_ (by decide) rfl 55 (by decide) rfl (hts _ (List.mem_cons_of_mem _ t_2201)) (fun _ h9 => h9) rfl dX14_draw_67 (fun x_93 bx_93 g => ?_)
              subst hQ
              exact W.iret (v := x_93) hx hb hr (fun t ht hW => ⟨⟨_, _, rfl, ⟨hG_91, hx_80, trivial⟩, q3_of g hK ht hW⟩, g.2.2.1.F ht⟩) g.2.2.1.2.2 dX14_draw_70
      have hl9 := lv_sub hl [0, 1, 2, 3, 4] (by rfl : lv_pick [(4, .int 0), (0, .ref a0_), (1, .int x1_), (2, .int x2_), (3, .int x3_)] [0, 1, 2, 3, 4] = [(4, .int 0), (0, .ref a0_), (1, .int x1_), (2, .int x2_), (3, .int x3_)])
      have g9 := g.sub (fx' := [(12, 0, q0_, .int x_6), (14, 1, a0_, .ref q0_)]) [2, 3] rfl
      exact loop_46 (203) 0 (bd_sub kb_0 (by decide)) (by have h9_0 := kb_0; unfold bd at h9_0; have h9_1 := kb_1; unfold bd at h9_1; have h9_2 := kb_100; unfold bd at h9_2; omega) _ _ _ _ g9 hG_42 hG_43 hG_44 hG_45 hl9
set_option maxHeartbeats 4000000 in
set_option maxRecDepth 100000 in
theorem r_X14_cell (l : Launch) (dC : Nat → ClassId) (dI : Nat → Nat → Nat) (L : List Nat) (kd : Nat → Nat) (tys : List (ClassId × FieldType)) (f0 : Nat → va_E) (sz : Nat) (hWT : WT L kd tys f0) (a0_ : Nat) (ma0_ : a0_ ∈ L) (ka0_ : kd a0_ = 14) (x1_ : Int32) (x2_ : Int32) (q0_ : Nat) (mq0_ : q0_ ∈ L) (kq0_ : kd q0_ = 12) (V_ : PV) (δ_ : Nat → Nat) (hW : wfP V_ δ_) (hGoa0_ : oOK f0 a0_ V_) (hGVq0_ : isV f0 q0_ V_) (hfx : Fs L kd f0 [(14, 1, a0_, .ref q0_)]) : Met l yX14_cell (.code yX14_cell cX14_cell 3 (some .long) :: lw_g) ({ frames := 1, cells := 0, slots := 0, locals := 25 }) (va_Pc [.ref a0_, .int x1_, .int x2_] (P3 (dC, dI) L tys f0 sz)) (va_Ql (fun (r : Int64) (f : Nat → va_E) => (True)) (Q3 (dC, dI) L kd tys [] [] f0 sz) (pA L sz)) 0 0 (pA L sz) := by
  refine Met.ofW (cc := cX14_cell) (maxL := 3) (ret := (some .long)) (by decide) rfl ?_
  intro p e s m args below meth c s₁ B hml hv
  obtain ⟨rfl, hsz, hP, hK, hD0⟩ := hv
  have hx := B.exec
  have hb := B.bytes
  have hr := B.returns
  have hts := atoms_spec (ws := (.code yX14_cell cX14_cell 3 (some .long) :: lw_g)) B.pre
  have hown : s.vm.findClass RX14 = some m.cls := findClass_of_methodNamed B.named
  have hlocks := B.notSynchronized
  subst hsz
  have g : G3 (dC, dI) L kd tys s f0 [] [] f0 s.heap [] [(14, 1, a0_, .ref q0_)] := G3.start hP hD0 hWT hfx
  have hl := lv_entry ([.ref a0_, .int x1_, .int x2_]) (n := 3) (Nat.le_of_ble_eq_true rfl)
  rw [lg_entry_eq]
  generalize (lg_sl ([.ref a0_, .int x1_, .int x2_]) ++ List.replicate (3 - (lg_sl ([.ref a0_, .int x1_, .int x2_])).length) Slot.unset).toArray = ls at hl ⊢
  have hl : lv_has ls 3 [(0, .ref a0_), (1, .int x1_), (2, .int x2_)] := hl
  refine W_q (fun Q hQ => ?_)
  refine lv_iload_n hx hb dX14_cell_0 rfl (lv_at hl 1 rfl) ?_
  refine lv_i2l hx hb dX14_cell_1 rfl ?_
  refine lv_topl (fun y_1 ey_1 => ?_)
  refine lv_lconst (v := 0) hx hb dX14_cell_2 (by decide) ?_
  refine lv_aload_n hx hb dX14_cell_3 rfl (lv_at hl 0 rfl) ?_
  refine g_geti (C := RX14) (T := TX14) (N := 67) hx hb hts (mc_ inX14) hown hK g ma0_ ka0_ (by decide) rfl 30 (by decide) rfl (hts _ (List.mem_cons_of_mem _ t_2176)) (fun _ h9 => h9) rfl dX14_cell_4 (fun x_2 bx_2 g => ?_)
  refine lv_iconst (v := 1) hx hb dX14_cell_7 (by decide) ?_
  have kb_1 : bd 1 1 (1 : Int32) := ⟨by decide, by decide⟩
  refine lv_isub hx hb dX14_cell_8 ?_
  refine lv_topi (fun y_3 ey_3 => ?_)
  have ty_3 := sub_bd ey_3 bx_2 kb_1 (by decide)
  have b_4 : bd (-1) 2 y_3 := sub_rg ty_3 bx_2 kb_1 (by decide)
  refine lv_i2l hx hb dX14_cell_9 rfl ?_
  refine lv_topl (fun y_5 ey_5 => ?_)
  have go_ := g
  refine g_calli (va_runS (As := [.long y_1, .long 0, .long y_5]) (rest := []) ⟨hx, hb, hml, hown, hts⟩ (r_X14_in l dC dI L kd tys f0 s.heap.size g.2.2.2.1 y_1 0 y_5) (va_cwS 3 hts (gS_ t_2448 t_2449 t_198 t_2450) rfl rfl rfl (by decide +kernel) ⟨(Nat.le_of_ble_eq_true rfl), (Nat.le_of_ble_eq_true rfl)⟩) (pre3S g hK) rfl rfl hl.1 rfl (lv_room (Nat.le_of_ble_eq_true rfl)) dX14_cell_10 ⟨(Nat.le_of_ble_eq_true rfl), (Nat.le_of_ble_eq_true rfl)⟩) g hK (by decide) (by decide) (fx' := [(14, 30, a0_, .int x_2), (14, 1, a0_, .ref q0_)]) rfl (fun r_6 fr_6 H locs hp hMr_6 g => ?_)
  rcases hp with ⟨hx_7, h_8, -⟩ | ⟨h_9, h_10, -⟩
  · have hG_11 := oOK.frame hMr_6 go_.2.2.2.1 ma0_ ka0_ (by decide) (by decide) hGoa0_
    have hG_12 := isV.frame hMr_6 go_.2.2.2.1 mq0_ kq0_ (by decide) (by decide) hGVq0_
    obtain rfl : r_6 = 0 := h_8
    refine lv_if_eq (tgt := 57) hx hb dX14_cell_13 (by decide) (fun c_ => ?_) (fun c_ => absurd (by decide) c_)
    refine lv_ldc2 (v := (-9223372036854775808)) hx hb hown (hts _ (List.mem_cons_of_mem _ t_2834)) dX14_cell_57 ?_
    subst hQ
    exact W.lret (v := (-9223372036854775808)) hx hb hr (fun t ht hW => ⟨⟨_, _, rfl, trivial, q3_of g hK ht hW⟩, g.2.2.1.F ht⟩) g.2.2.1.2.2 dX14_cell_60
  · have hG_13 := oOK.frame hMr_6 go_.2.2.2.1 ma0_ ka0_ (by decide) (by decide) hGoa0_
    have hG_14 := isV.frame hMr_6 go_.2.2.2.1 mq0_ kq0_ (by decide) (by decide) hGVq0_
    obtain rfl : r_6 = 1 := h_9
    have f_15 : (0 : Int32).toInt ≤ x1_.toInt := in_le h_10.1 (in_k (k := 0) (by decide) (by decide)) (in_v ey_1)
    have f_16 : x1_.toInt ≤ y_3.toInt := in_le h_10.2 (in_v ey_1) (in_v ey_5)
    have kb_0 : bd 0 0 (0 : Int32) := ⟨by decide, by decide⟩
    have b_17 : bd 0 2147483647 x1_ := leR f_15 kb_0 (bdT x1_) (by decide)
    have b_18 : bd 0 2 x1_ := leL f_16 b_17 b_4 (by decide)
    have b_19 : bd 0 2 y_3 := leR f_16 b_17 b_4 (by decide)
    have b_20 : bd 1 3 x_2 := sub_inv ty_3 b_19 bx_2 kb_1 (by decide)
    refine lv_if_eq (tgt := 57) hx hb dX14_cell_13 (by decide) (fun c_ => absurd c_ (by decide)) (fun c_ => ?_)
    refine lv_iload_n hx hb dX14_cell_16 rfl (lv_at hl 2 rfl) ?_
    refine lv_i2l hx hb dX14_cell_17 rfl ?_
    refine lv_topl (fun y_21 ey_21 => ?_)
    refine lv_lconst (v := 0) hx hb dX14_cell_18 (by decide) ?_
    refine lv_aload_n hx hb dX14_cell_19 rfl (lv_at hl 0 rfl) ?_
    refine g_getk (C := RX14) (T := TX14) (N := 67) hx hb hts (mc_ inX14) hown hK g rfl 1 (by decide) rfl (hts _ (List.mem_cons_of_mem _ t_2147)) (fun _ h9 => h9) 1 rfl dX14_cell_20 ?_
    refine g_getr (K := 161) (C := RX12) (T := TX12) (N := 60) hx hb hts (mc_ inX12) hown hK g mq0_ kq0_ (by decide) rfl 5 (by decide) rfl (hts _ (List.mem_cons_of_mem _ t_1916)) (fun _ h9 => h9) rfl dX14_cell_23 (fun a_22 ma_22 ka_22 g => ?_)
    refine lv_aload_n hx hb dX14_cell_26 rfl (lv_at hl 0 rfl) ?_
    refine g_getr (K := 215) (C := RX14) (T := TX14) (N := 67) hx hb hts (mc_ inX14) hown hK g ma0_ ka0_ (by decide) rfl 27 (by decide) rfl (hts _ (List.mem_cons_of_mem _ t_2173)) (fun _ h9 => h9) rfl dX14_cell_27 (fun a_23 ma_23 ka_23 g => ?_)
    refine lv_iload_n hx hb dX14_cell_30 rfl (lv_at hl 1 rfl) ?_
    refine g_iald hx hb hK g ma_23 ka_23 (by decide) rfl (in_bd b_18 (by decide)) dX14_cell_31 (fun x_24 bx_24 cx_24 => ?_)
    have hk_25 := hG_13.at g 2 0 rfl rfl (by have h9_0 := b_18; unfold bd at h9_0; have h9_1 := b_20; unfold bd at h9_1; have h9_2 := bx_24; unfold bd at h9_2; have h9_3 := b_19; unfold bd at h9_3; have h8_0 := kb_0; unfold bd at h8_0; have h8_1 := kb_1; unfold bd at h8_1; omega) (by have h9_0 := b_18; unfold bd at h9_0; have h9_1 := b_20; unfold bd at h9_1; have h9_2 := bx_24; unfold bd at h9_2; have h9_3 := b_19; unfold bd at h9_3; have h8_0 := kb_0; unfold bd at h8_0; have h8_1 := kb_1; unfold bd at h8_1; omega) cx_24
    have b_26 : bd 0 7 x_24 := ⟨hk_25.1, bx_24.2⟩
    refine g_iald hx hb hK g ma_22 ka_22 (by decide) rfl (in_bd b_26 (by decide)) dX14_cell_32 (fun x_27 bx_27 cx_27 => ?_)
    have vx_27 : x_27 = V_.i 5 x_24.toNatClampNeg := hG_14.at g 1 rfl rfl cx_27
    refine lv_iconst (v := 1) hx hb dX14_cell_33 (by decide) ?_
    refine lv_isub hx hb dX14_cell_34 ?_
    refine lv_topi (fun y_28 ey_28 => ?_)
    have ty_28 := sub_bd ey_28 bx_27 kb_1 (by decide)
    have b_29 : bd (-1) 23 y_28 := sub_rg ty_28 bx_27 kb_1 (by decide)
    refine lv_i2l hx hb dX14_cell_35 rfl ?_
    refine lv_topl (fun y_30 ey_30 => ?_)
    have go_ := g
    refine g_calli (va_runS (As := [.long y_21, .long 0, .long y_30]) (rest := []) ⟨hx, hb, hml, hown, hts⟩ (r_X14_in l dC dI L kd tys fr_6 H.size g.2.2.2.1 y_21 0 y_30) (va_cwS 3 hts (gS_ t_2448 t_2449 t_198 t_2450) rfl rfl rfl (by decide +kernel) ⟨(Nat.le_of_ble_eq_true rfl), (Nat.le_of_ble_eq_true rfl)⟩) (pre3S g hK) rfl rfl hl.1 rfl (lv_room (Nat.le_of_ble_eq_true rfl)) dX14_cell_36 ⟨(Nat.le_of_ble_eq_true rfl), (Nat.le_of_ble_eq_true rfl)⟩) g hK (by decide) (by decide) (fx' := [(14, 27, a0_, .ref a_23), (12, 5, q0_, .ref a_22), (14, 30, a0_, .int x_2), (14, 1, a0_, .ref q0_)]) rfl (fun r_31 fr_31 H locs hp hMr_31 g => ?_)
    rcases hp with ⟨hx_32, h_33, -⟩ | ⟨h_34, h_35, -⟩
    · have hG_36 := oOK.frame hMr_31 go_.2.2.2.1 ma0_ ka0_ (by decide) (by decide) hG_13
      have hG_37 := isV.frame hMr_31 go_.2.2.2.1 mq0_ kq0_ (by decide) (by decide) hG_14
      obtain rfl : r_31 = 0 := h_33
      refine lv_if_eq (tgt := 57) hx hb dX14_cell_39 (by decide) (fun c_ => ?_) (fun c_ => absurd (by decide) c_)
      refine lv_ldc2 (v := (-9223372036854775808)) hx hb hown (hts _ (List.mem_cons_of_mem _ t_2834)) dX14_cell_57 ?_
      subst hQ
      exact W.lret (v := (-9223372036854775808)) hx hb hr (fun t ht hW => ⟨⟨_, _, rfl, trivial, q3_of g hK ht hW⟩, g.2.2.1.F ht⟩) g.2.2.1.2.2 dX14_cell_60
    · have hG_38 := oOK.frame hMr_31 go_.2.2.2.1 ma0_ ka0_ (by decide) (by decide) hG_13
      have hG_39 := isV.frame hMr_31 go_.2.2.2.1 mq0_ kq0_ (by decide) (by decide) hG_14
      obtain rfl : r_31 = 1 := h_34
      have f_40 : (0 : Int32).toInt ≤ x2_.toInt := in_le h_35.1 (in_k (k := 0) (by decide) (by decide)) (in_v ey_21)
      have f_41 : x2_.toInt ≤ y_28.toInt := in_le h_35.2 (in_v ey_21) (in_v ey_30)
      have b_42 : bd 0 2147483647 x2_ := leR f_40 kb_0 (bdT x2_) (by decide)
      have b_43 : bd 0 23 x2_ := leL f_41 b_42 b_29 (by decide)
      have b_44 : bd 0 23 y_28 := leR f_41 b_42 b_29 (by decide)
      have b_45 : bd 1 24 x_27 := sub_inv ty_28 b_44 bx_27 kb_1 (by decide)
      refine lv_if_eq (tgt := 57) hx hb dX14_cell_39 (by decide) (fun c_ => absurd c_ (by decide)) (fun c_ => ?_)
      refine lv_aload_n hx hb dX14_cell_42 rfl (lv_at hl 0 rfl) ?_
      refine g_getr (K := 216) (C := RX14) (T := TX14) (N := 67) hx hb hts (mc_ inX14) hown hK g ma0_ ka0_ (by decide) rfl 28 (by decide) rfl (hts _ (List.mem_cons_of_mem _ t_2174)) (fun _ h9 => h9) rfl dX14_cell_43 (fun a_46 ma_46 ka_46 g => ?_)
      refine lv_bipush (v := 24) hx hb dX14_cell_46 (by decide) ?_
      refine lv_iload_n hx hb dX14_cell_48 rfl (lv_at hl 1 rfl) ?_
      refine lv_imul hx hb dX14_cell_49 ?_
      refine lv_topi (fun y_47 ey_47 => ?_)
      have ty_47 := cmul_bd ey_47 (c := 24) (by decide) b_18 (by decide)
      have b_48 : bd 0 48 y_47 := mulc_rg ty_47 b_18 (by decide)
      refine lv_iload_n hx hb dX14_cell_50 rfl (lv_at hl 2 rfl) ?_
      refine lv_iadd hx hb dX14_cell_51 ?_
      refine lv_topi (fun y_49 ey_49 => ?_)
      have ty_49 := add_bd ey_49 b_48 b_43 (by decide)
      have b_50 : bd 0 71 y_49 := add_rg ty_49 b_48 b_43 (by decide)
      refine g_iald hx hb hK g ma_46 ka_46 (by decide) rfl (in_bd b_50 (by decide)) dX14_cell_52 (fun x_51 bx_51 cx_51 => ?_)
      refine lv_i2l hx hb dX14_cell_53 rfl ?_
      refine lv_topl (fun y_52 ey_52 => ?_)
      refine lv_goto (tgt := 60) hx hb dX14_cell_54 (by decide) ?_
      subst hQ
      exact W.lret (v := y_52) hx hb hr (fun t ht hW => ⟨⟨_, _, rfl, trivial, q3_of g hK ht hW⟩, g.2.2.1.F ht⟩) g.2.2.1.2.2 dX14_cell_60
set_option maxHeartbeats 4000000 in
set_option maxRecDepth 100000 in
theorem r_X14_model (l : Launch) (dC : Nat → ClassId) (dI : Nat → Nat → Nat) (L : List Nat) (kd : Nat → Nat) (tys : List (ClassId × FieldType)) (f0 : Nat → va_E) (sz : Nat) (hWT : WT L kd tys f0) (a0_ : Nat) (ma0_ : a0_ ∈ L) (ka0_ : kd a0_ = 14) (x1_ : Int32) (x2_ : Int32) (q0_ : Nat) (mq0_ : q0_ ∈ L) (kq0_ : kd q0_ = 12) (V_ : PV) (δ_ : Nat → Nat) (hW : wfP V_ δ_) (hGVq0_ : isV f0 q0_ V_) (hGmq0_ : mOK f0 q0_ V_) (hfx : Fs L kd f0 [(14, 1, a0_, .ref q0_)]) : Met l yX14_model (.code yX14_model cX14_model 3 (some .int) :: lw_g) ({ frames := 2, cells := 0, slots := 0, locals := 46 }) (va_Pc [.ref a0_, .int x1_, .int x2_] (P3 (dC, dI) L tys f0 sz)) (va_Qi (fun (r : Int32) (f : Nat → va_E) => ((mOK f q0_ V_) ∧ r = (-2) ∧ True) ∨ ((mOK f q0_ V_) ∧ r = 1 ∧ bd 0 7 x1_ ∧ bd (-1) 7 x2_ ∧ ∃ z0_ : Int32, bd 1 8 z0_ ∧ Fs L kd f [(12, 0, q0_, .int z0_)])) (Q3 (dC, dI) L kd tys [] [211] f0 sz) (pA L sz)) 0 0 (pA L sz) := by
  refine Met.ofW (cc := cX14_model) (maxL := 3) (ret := (some .int)) (by decide) rfl ?_
  intro p e s m args below meth c s₁ B hml hv
  obtain ⟨rfl, hsz, hP, hK, hD0⟩ := hv
  have hx := B.exec
  have hb := B.bytes
  have hr := B.returns
  have hts := atoms_spec (ws := (.code yX14_model cX14_model 3 (some .int) :: lw_g)) B.pre
  have hown : s.vm.findClass RX14 = some m.cls := findClass_of_methodNamed B.named
  have hlocks := B.notSynchronized
  subst hsz
  have g : G3 (dC, dI) L kd tys s f0 [] [211] f0 s.heap [] [(14, 1, a0_, .ref q0_)] := G3.start hP hD0 hWT hfx
  have hl := lv_entry ([.ref a0_, .int x1_, .int x2_]) (n := 3) (Nat.le_of_ble_eq_true rfl)
  rw [lg_entry_eq]
  generalize (lg_sl ([.ref a0_, .int x1_, .int x2_]) ++ List.replicate (3 - (lg_sl ([.ref a0_, .int x1_, .int x2_])).length) Slot.unset).toArray = ls at hl ⊢
  have hl : lv_has ls 3 [(0, .ref a0_), (1, .int x1_), (2, .int x2_)] := hl
  refine W_q (fun Q hQ => ?_)
  refine lv_aload_n hx hb dX14_model_0 rfl (lv_at hl 0 rfl) ?_
  refine lv_iload_n hx hb dX14_model_1 rfl (lv_at hl 1 rfl) ?_
  have go_ := g
  refine g_calli (va_runV (As := [.int x1_]) (rest := []) ⟨hx, hb, hml, hown, hts⟩ (r_X14_isClass_2 l dC dI L kd tys f0 s.heap.size g.2.2.2.1 a0_ ma0_ ka0_ x1_ q0_ mq0_ kq0_ V_ δ_ hW hGVq0_ (g.fcts [0] rfl)) (cwV 1 hts (gV_ t_2574 t_2576 t_137 t_198 t_2577) rfl rfl rfl (by decide +kernel) ⟨(Nat.le_of_ble_eq_true rfl), (Nat.le_of_ble_eq_true rfl)⟩) (pre3V g hK ma0_ ka0_ (by decide) (q := (RX14, TX14, 67)) rfl) rfl rfl hl.1 rfl (lv_room (Nat.le_of_ble_eq_true rfl)) dX14_model_2 ⟨(Nat.le_of_ble_eq_true rfl), (Nat.le_of_ble_eq_true rfl)⟩) g hK (by decide) (by decide) (fx' := [(14, 1, a0_, .ref q0_)]) rfl (fun r_1 fr_1 H locs hp hMr_1 g => ?_)
  rcases hp with ⟨h_2, -⟩ | ⟨hx_3, h_4, h_5, x_6, h_7, hF_8⟩
  · have hG_9 := isV.frame hMr_1 go_.2.2.2.1 mq0_ kq0_ (by decide) (by decide) hGVq0_
    have hG_10 := mOK.frame hMr_1 go_.2.2.2.1 mq0_ kq0_ (by decide) (by decide) hGmq0_
    obtain rfl : r_1 = 0 := h_2
    refine lv_if_eq (tgt := 21) hx hb dX14_model_5 (by decide) (fun c_ => ?_) (fun c_ => absurd (by decide) c_)
    refine lv_bipush (v := (-2)) hx hb dX14_model_21 (by decide) ?_
    subst hQ
    exact W.iret (v := (-2)) hx hb hr (fun t ht hW => ⟨⟨_, _, rfl, Or.inl ⟨hG_10, rfl, trivial⟩, q3_of g hK ht hW⟩, g.2.2.1.F ht⟩) g.2.2.1.2.2 dX14_model_23
  · have hG_11 := isV.frame hMr_1 go_.2.2.2.1 mq0_ kq0_ (by decide) (by decide) hGVq0_
    have hG_12 := mOK.frame hMr_1 go_.2.2.2.1 mq0_ kq0_ (by decide) (by decide) hGmq0_
    obtain rfl : r_1 = 1 := h_4
    have b_13 : bd 0 7 x1_ := eqX rfl (bdT x1_) h_5 (by decide)
    have g := g.more hF_8
    refine lv_if_eq (tgt := 21) hx hb dX14_model_5 (by decide) (fun c_ => absurd c_ (by decide)) (fun c_ => ?_)
    refine lv_iload_n hx hb dX14_model_8 rfl (lv_at hl 2 rfl) ?_
    refine lv_iconst (v := (-1)) hx hb dX14_model_9 (by decide) ?_
    have kb_m1 : bd (-1) (-1) ((-1) : Int32) := ⟨by decide, by decide⟩
    refine lv_icmp_eq (tgt := 24) hx hb dX14_model_10 (by decide) (fun c_14 => ?_) (fun c_14 => ?_)
    · have fc_14 := eq_f c_14
      have b_15 : bd (-1) (-1) x2_ := eqX fc_14 (bdT x2_) kb_m1 (by decide)
      refine lv_aload_n hx hb dX14_model_24 rfl (lv_at hl 0 rfl) ?_
      refine g_getk (C := RX14) (T := TX14) (N := 67) hx hb hts (mc_ inX14) hown hK g rfl 1 (by decide) rfl (hts _ (List.mem_cons_of_mem _ t_2147)) (fun _ h9 => h9) 1 rfl dX14_model_25 ?_
      refine g_getr (K := 211) (C := RX12) (T := TX12) (N := 60) hx hb hts (mc_ inX12) hown hK g mq0_ kq0_ (by decide) rfl 59 (by decide) rfl (hts _ (List.mem_cons_of_mem _ t_2020)) (fun _ h9 => h9) rfl dX14_model_28 (fun a_16 ma_16 ka_16 g => ?_)
      refine lv_iload_n hx hb dX14_model_31 rfl (lv_at hl 1 rfl) ?_
      refine lv_iload_n hx hb dX14_model_32 rfl (lv_at hl 2 rfl) ?_
      have gp_17 := g
      have go_ := g
      refine g_iastX hx hb hK g ma_16 ka_16 (by decide) rfl (in_bd b_13 (by decide)) (bd_sub b_15 (by decide)) (by decide) dX14_model_33 (fun f H locs hM_18 u_20 g => ?_)
      have hG_19 := isV.frame hM_18 go_.2.2.2.1 mq0_ kq0_ (by decide) (by decide) hG_11
      have hG_21 := mOK.put hG_12 gp_17 0 rfl kq0_ ka_16 u_20 (Or.inl (by have h9 := b_15; unfold bd at h9; omega))
      refine lv_iconst (v := 1) hx hb dX14_model_34 (by decide) ?_
      subst hQ
      exact W.iret (v := 1) hx hb hr (fun t ht hW => ⟨⟨_, _, rfl, Or.inr (⟨hG_21, rfl, b_13, (bd_sub b_15 (by decide)), x_6, h_7, (g.fcts [1] rfl)⟩), q3_of g hK ht hW⟩, g.2.2.1.F ht⟩) g.2.2.1.2.2 dX14_model_35
    · have fc_14 := neq_f c_14
      refine lv_aload_n hx hb dX14_model_13 rfl (lv_at hl 0 rfl) ?_
      refine lv_iload_n hx hb dX14_model_14 rfl (lv_at hl 2 rfl) ?_
      have go_ := g
      refine g_calli (va_runV (As := [.int x2_]) (rest := []) ⟨hx, hb, hml, hown, hts⟩ (r_X14_isClass_2 l dC dI L kd tys fr_1 H.size g.2.2.2.1 a0_ ma0_ ka0_ x2_ q0_ mq0_ kq0_ V_ δ_ hW hG_11 (g.fcts [1] rfl)) (cwV 1 hts (gV_ t_2574 t_2576 t_137 t_198 t_2577) rfl rfl rfl (by decide +kernel) ⟨(Nat.le_of_ble_eq_true rfl), (Nat.le_of_ble_eq_true rfl)⟩) (pre3V g hK ma0_ ka0_ (by decide) (q := (RX14, TX14, 67)) rfl) rfl rfl hl.1 rfl (lv_room (Nat.le_of_ble_eq_true rfl)) dX14_model_15 ⟨(Nat.le_of_ble_eq_true rfl), (Nat.le_of_ble_eq_true rfl)⟩) g hK (by decide) (by decide) (fx' := [(12, 0, q0_, .int x_6), (14, 1, a0_, .ref q0_)]) rfl (fun r_22 fr_22 H locs hp hMr_22 g => ?_)
      rcases hp with ⟨h_23, -⟩ | ⟨hx_24, h_25, h_26, x_27, h_28, hF_29⟩
      · have hG_30 := isV.frame hMr_22 go_.2.2.2.1 mq0_ kq0_ (by decide) (by decide) hG_11
        have hG_31 := mOK.frame hMr_22 go_.2.2.2.1 mq0_ kq0_ (by decide) (by decide) hG_12
        obtain rfl : r_22 = 0 := h_23
        refine lv_if_ne (tgt := 24) hx hb dX14_model_18 (by decide) (fun c_ => absurd c_ (by decide)) (fun c_ => ?_)
        refine lv_bipush (v := (-2)) hx hb dX14_model_21 (by decide) ?_
        subst hQ
        exact W.iret (v := (-2)) hx hb hr (fun t ht hW => ⟨⟨_, _, rfl, Or.inl ⟨hG_31, rfl, trivial⟩, q3_of g hK ht hW⟩, g.2.2.1.F ht⟩) g.2.2.1.2.2 dX14_model_23
      · have hG_32 := isV.frame hMr_22 go_.2.2.2.1 mq0_ kq0_ (by decide) (by decide) hG_11
        have hG_33 := mOK.frame hMr_22 go_.2.2.2.1 mq0_ kq0_ (by decide) (by decide) hG_12
        obtain rfl : r_22 = 1 := h_25
        have b_34 : bd 0 7 x2_ := eqX rfl (bdT x2_) h_26 (by decide)
        have g := g.more hF_29
        have e_35 := fx_same g 1 0 rfl rfl
        have g := g.sub (fx' := [(12, 0, q0_, .int x_6), (14, 1, a0_, .ref q0_)]) [1, 2] rfl
        refine lv_if_ne (tgt := 24) hx hb dX14_model_18 (by decide) (fun c_ => ?_) (fun c_ => absurd c_ (by decide))
        refine lv_aload_n hx hb dX14_model_24 rfl (lv_at hl 0 rfl) ?_
        refine g_getk (C := RX14) (T := TX14) (N := 67) hx hb hts (mc_ inX14) hown hK g rfl 1 (by decide) rfl (hts _ (List.mem_cons_of_mem _ t_2147)) (fun _ h9 => h9) 1 rfl dX14_model_25 ?_
        refine g_getr (K := 211) (C := RX12) (T := TX12) (N := 60) hx hb hts (mc_ inX12) hown hK g mq0_ kq0_ (by decide) rfl 59 (by decide) rfl (hts _ (List.mem_cons_of_mem _ t_2020)) (fun _ h9 => h9) rfl dX14_model_28 (fun a_36 ma_36 ka_36 g => ?_)
        refine lv_iload_n hx hb dX14_model_31 rfl (lv_at hl 1 rfl) ?_
        refine lv_iload_n hx hb dX14_model_32 rfl (lv_at hl 2 rfl) ?_
        have gp_37 := g
        have go_ := g
        refine g_iastX hx hb hK g ma_36 ka_36 (by decide) rfl (in_bd b_13 (by decide)) (bd_sub b_34 (by decide)) (by decide) dX14_model_33 (fun f H locs hM_38 u_40 g => ?_)
        have hG_39 := isV.frame hM_38 go_.2.2.2.1 mq0_ kq0_ (by decide) (by decide) hG_32
        have hG_41 := mOK.put hG_33 gp_37 0 rfl kq0_ ka_36 u_40 (Or.inr hx_24)
        refine lv_iconst (v := 1) hx hb dX14_model_34 (by decide) ?_
        subst hQ
        exact W.iret (v := 1) hx hb hr (fun t ht hW => ⟨⟨_, _, rfl, Or.inr (⟨hG_41, rfl, b_13, (bd_sub b_34 (by decide)), x_6, h_7, (g.fcts [1] rfl)⟩), q3_of g hK ht hW⟩, g.2.2.1.F ht⟩) g.2.2.1.2.2 dX14_model_35
