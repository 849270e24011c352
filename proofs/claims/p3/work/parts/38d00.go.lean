set_option maxHeartbeats 4000000 in
set_option maxRecDepth 100000 in
theorem r_X14_goOver (N : Nat) (ih : RecG N) (l : Launch) (dC : Nat → ClassId) (dI : Nat → Nat → Nat) (L : List Nat) (kd : Nat → Nat) (tys : List (ClassId × FieldType)) (f0 : Nat → va_E) (sz : Nat) (hWT : WT L kd tys f0) (adK adV : Nat → Nat) (a0_ : Nat) (ma0_ : a0_ ∈ L) (ka0_ : kd a0_ = 14) (x1_ : Int32) (bx1_ : bd 0 7 x1_) (x2_ : Int32) (bx2_ : bd 1 4 x2_) (q0_ : Nat) (mq0_ : q0_ ∈ L) (kq0_ : kd q0_ = 12) (r_ : Int32) (br_ : bd 0 4 r_) (k_ : Int32) (bk_ : bd 0 3 k_) (V_ : PV) (δ_ : Nat → Nat) (hW : wfP V_ δ_) (RW_ : RW) (hV : isV f0 q0_ V_) (hWW : isW f0 a0_ RW_) (hmo : mOK f0 q0_ V_) (ho : oOK f0 a0_ V_) (htk : tOK f0 a0_ V_) (hrw : rwOK V_ RW_ r_ k_) (hall : allC RW_ k_ x1_) (hcl : okc V_ x1_) (hrm : r_.toInt ≤ x2_.toInt) (hN : 5 - r_.toInt ≤ ((N + 1 : Nat) : Int)) (hfx : Fs L kd f0 [(14, 1, a0_, .ref q0_), (14, 51, a0_, .int r_), (14, 52, a0_, .int k_)]) : Met l yX14_goOver (.code yX14_goOver cX14_goOver 15 (some .boolean) :: lw_g) ({ frames := (N + 1) + 980, cells := 0, slots := 0, locals := 60 * (N + 1) + 39317 }) (va_Pc [.ref a0_, .int x1_, .int x2_] (P3A (dC, dI) L tys f0 sz adK adV)) (va_Qi (fun (r : Int32) (f : Nat → va_E) => (oOK f a0_ V_ ∧ tOK f a0_ V_ ∧ (∃ R : RW, isW f a0_ R ∧ pfx RW_ R r_ k_ ∧ ∀ r k : Int32, fV f a0_ 51 = .int r → fV f a0_ 52 = .int k → rwOK V_ R r k) ∧ bd 0 1 r ∧ True)) (Q3 (dC, dI) L kd tys [(14, 30), (14, 31), (14, 32), (14, 33), (14, 34), (14, 35), (14, 36), (14, 37), (14, 38), (14, 39), (14, 40), (14, 45), (14, 51), (14, 52), (14, 53), (14, 55), (14, 58), (14, 59), (14, 61), (14, 65), (14, 66)] [200, 215, 216, 217, 218, 219, 220, 221, 222, 223, 224, 225, 226, 227, 228, 229, 230, 231, 232] f0 sz) (pA L sz)) 0 0 (pA L sz) := by
  refine Met.ofW (cc := cX14_goOver) (maxL := 15) (ret := (some .boolean)) (by decide) rfl ?_
  intro p e s m args below meth c s₁ B hml hv
  obtain ⟨rfl, ⟨hsz, hP, hK, hD0⟩, hAm⟩ := hv
  have hx := B.exec
  have hb := B.bytes
  have hr := B.returns
  have hts := atoms_spec (ws := (.code yX14_goOver cX14_goOver 15 (some .boolean) :: lw_g)) B.pre
  have hown : s.vm.findClass RX14 = some m.cls := findClass_of_methodNamed B.named
  have hlocks := B.notSynchronized
  subst hsz
  have g : G3 (dC, dI) L kd tys s f0 [(14, 30), (14, 31), (14, 32), (14, 33), (14, 34), (14, 35), (14, 36), (14, 37), (14, 38), (14, 39), (14, 40), (14, 45), (14, 51), (14, 52), (14, 53), (14, 55), (14, 58), (14, 59), (14, 61), (14, 65), (14, 66)] [200, 215, 216, 217, 218, 219, 220, 221, 222, 223, 224, 225, 226, 227, 228, 229, 230, 231, 232] f0 s.heap [] [(14, 1, a0_, .ref q0_), (14, 51, a0_, .int r_), (14, 52, a0_, .int k_)] := G3.start hP hD0 hWT hfx
  have hl := lv_entry ([.ref a0_, .int x1_, .int x2_]) (n := 15) (Nat.le_of_ble_eq_true rfl)
  rw [lg_entry_eq]
  generalize (lg_sl ([.ref a0_, .int x1_, .int x2_]) ++ List.replicate (15 - (lg_sl ([.ref a0_, .int x1_, .int x2_])).length) Slot.unset).toArray = ls at hl ⊢
  have hl : lv_has ls 15 [(0, .ref a0_), (1, .int x1_), (2, .int x2_)] := hl
  refine W_q (fun Q hQ => ?_)
  refine lv_aload_n hx hb dX14_goOver_0 rfl (lv_at hl 0 rfl) ?_
  refine g_getk (C := RX14) (T := TX14) (N := 67) hx hb hts (mc_ inX14) hown hK g rfl 51 (by decide) rfl (hts _ (List.mem_cons_of_mem _ t_2197)) (fun _ h9 => h9) 1 rfl dX14_goOver_1 ?_
  refine lv_iload_n hx hb dX14_goOver_4 rfl (lv_at hl 2 rfl) ?_
  refine lv_icmp_ne (tgt := 66) hx hb dX14_goOver_5 (by decide) (fun c_1 => ?_) (fun c_1 => ?_)
  · have fc_1 := neq_f c_1
    refine lv_aload_n hx hb dX14_goOver_66 rfl (lv_at hl 0 rfl) ?_
    refine g_getk (C := RX14) (T := TX14) (N := 67) hx hb hts (mc_ inX14) hown hK g rfl 51 (by decide) rfl (hts _ (List.mem_cons_of_mem _ t_2197)) (fun _ h9 => h9) 1 rfl dX14_goOver_67 ?_
    have kb_0 : bd 0 0 (0 : Int32) := ⟨by decide, by decide⟩
    refine lv_if_le (tgt := 83) hx hb dX14_goOver_70 (by decide) (fun c_2 => ?_) (fun c_2 => ?_)
    · have fc_2 := le_f c_2
      have b_3 : bd 0 0 r_ := leL fc_2 br_ kb_0 (by decide)
      refine lv_aload_n hx hb dX14_goOver_83 rfl (lv_at hl 0 rfl) ?_
      refine g_getk (C := RX14) (T := TX14) (N := 67) hx hb hts (mc_ inX14) hown hK g rfl 51 (by decide) rfl (hts _ (List.mem_cons_of_mem _ t_2197)) (fun _ h9 => h9) 1 rfl dX14_goOver_84 ?_
      refine lv_if_ne (tgt := 102) hx hb dX14_goOver_87 (by decide) (fun c_4 => ?_) (fun c_4 => ?_)
      · have fc_4 := neq_f c_4
        have b_5 : bd 1 (-1) r_ := neX fc_4 b_3 kb_0 (by decide)
        exact bd_no b_5 (by decide)
      · have fc_4 := eq_f c_4
        refine lv_aload_n hx hb dX14_goOver_90 rfl (lv_at hl 0 rfl) ?_
        refine lv_iload_n hx hb dX14_goOver_91 rfl (lv_at hl 1 rfl) ?_
        have b_6 : bd 0 0 k_ := ⟨bk_.1, (by rw [rwOK.z0 hrw (by have h9_0 := bk_; unfold bd at h9_0; have h9_1 := b_3; unfold bd at h9_1; have h9_2 := bx1_; unfold bd at h9_2; have h9_3 := bx2_; unfold bd at h9_3; have h8_0 := kb_0; unfold bd at h8_0; omega)]; decide)⟩
        have go_ := g
        refine g_callv (va_runV (As := [.int x1_]) (rest := []) ⟨hx, hb, hml, hown, hts⟩ (r_X14_addMake l dC dI L kd tys f0 s.heap.size g.2.2.2.1 a0_ ma0_ ka0_ x1_ bx1_ q0_ mq0_ kq0_ r_ (bd_sub b_3 (by decide)) k_ (bd_sub b_6 (by decide)) V_ δ_ hW RW_ hWW hV hrw hcl (g.fcts [0, 1, 2] rfl)) (cwV 1 hts (gV_ t_2594 t_2596 t_138 t_198 t_2597) rfl rfl rfl (by decide +kernel) ⟨(show 0 + 1 ≤ N + 1 + 980 by omega), (show 8 + (2 + 11) + 0 ≤ 60 * (N + 1) + 39317 by omega)⟩) (pre3V g hK ma0_ ka0_ (by decide) (q := (RX14, TX14, 67)) rfl) rfl rfl hl.1 rfl (lv_room (Nat.le_of_ble_eq_true rfl)) dX14_goOver_92 ⟨(Nat.le_of_ble_eq_true rfl), (Nat.le_of_ble_eq_true rfl)⟩) g hK (by decide) (by decide) (fx' := [(14, 1, a0_, .ref q0_)]) rfl (fun fr_7 H locs hp hMr_7 g => ?_)
        obtain ⟨hx_8, hx_9, x_10, ⟨h_11, rh_11⟩, x_12, ⟨h_13, rh_13⟩, hF_14⟩ := hp
        have hG_15 := isV.frame hMr_7 go_.2.2.2.1 mq0_ kq0_ (by decide) (by decide) hV
        have hG_16 := mOK.frame hMr_7 go_.2.2.2.1 mq0_ kq0_ (by decide) (by decide) hmo
        have hG_17 := oOK.frame hMr_7 go_.2.2.2.1 ma0_ ka0_ (by decide) (by decide) ho
        have hG_18 := tOK.frame hMr_7 go_.2.2.2.1 ma0_ ka0_ (by decide) (by decide) htk
        have g := g.more hF_14
        refine lv_aload_n hx hb dX14_goOver_95 rfl (lv_at hl 0 rfl) ?_
        refine lv_iload_n hx hb dX14_goOver_96 rfl (lv_at hl 1 rfl) ?_
        refine lv_iload_n hx hb dX14_goOver_97 rfl (lv_at hl 2 rfl) ?_
        have b_19 : bd 0 4 x_10 := ⟨(by have h9_0 := b_6; unfold bd at h9_0; have h9_1 := b_3; unfold bd at h9_1; have h9_2 := bx1_; unfold bd at h9_2; have h9_3 := bx2_; unfold bd at h9_3; have h9_4 := h_11; unfold bd at h9_4; have h9_5 := h_13; unfold bd at h9_5; have h8_0 := kb_0; unfold bd at h8_0; omega), (by have h9_0 := b_6; unfold bd at h9_0; have h9_1 := b_3; unfold bd at h9_1; have h9_2 := bx1_; unfold bd at h9_2; have h9_3 := bx2_; unfold bd at h9_3; have h9_4 := h_11; unfold bd at h9_4; have h9_5 := h_13; unfold bd at h9_5; have h8_0 := kb_0; unfold bd at h8_0; omega)⟩
        have go_ := g
        refine g_calli (va_runV (As := [.int x1_, .int x2_]) (rest := []) ⟨hx, hb, hml, hown, hts⟩ (ih l dC dI L kd tys fr_7 H.size g.2.2.2.1 adK adV a0_ ma0_ ka0_ x1_ bx1_ x2_ bx2_ q0_ mq0_ kq0_ x_10 b_19 x_12 (bd_sub h_13 (by decide)) V_ δ_ hW (RW_.adM r_ k_ x1_) hG_15 hx_8 hG_16 hG_17 hG_18 (hx_9.1 _ _ (by have h9_0 := b_6; unfold bd at h9_0; have h9_1 := b_3; unfold bd at h9_1; have h9_2 := bx1_; unfold bd at h9_2; have h9_3 := bx2_; unfold bd at h9_3; have h9_4 := b_19; unfold bd at h9_4; have h9_5 := h_13; unfold bd at h9_5; have h8_0 := kb_0; unfold bd at h8_0; omega) (by have h9_0 := b_6; unfold bd at h9_0; have h9_1 := b_3; unfold bd at h9_1; have h9_2 := bx1_; unfold bd at h9_2; have h9_3 := bx2_; unfold bd at h9_3; have h9_4 := b_19; unfold bd at h9_4; have h9_5 := h_13; unfold bd at h9_5; have h8_0 := kb_0; unfold bd at h8_0; omega)) ((hall.pf (pfx.rf (r := r_))).ad hx_9 (Or.inr ⟨rfl, adM_c⟩) (by have h9_0 := b_6; unfold bd at h9_0; have h9_1 := b_3; unfold bd at h9_1; have h9_2 := bx1_; unfold bd at h9_2; have h9_3 := bx2_; unfold bd at h9_3; have h9_4 := b_19; unfold bd at h9_4; have h9_5 := h_13; unfold bd at h9_5; have h8_0 := kb_0; unfold bd at h8_0; omega) (by have h9_0 := b_6; unfold bd at h9_0; have h9_1 := b_3; unfold bd at h9_1; have h9_2 := bx1_; unfold bd at h9_2; have h9_3 := bx2_; unfold bd at h9_3; have h9_4 := b_19; unfold bd at h9_4; have h9_5 := h_13; unfold bd at h9_5; have h8_0 := kb_0; unfold bd at h8_0; omega)) hcl (by have h9_0 := b_6; unfold bd at h9_0; have h9_1 := b_3; unfold bd at h9_1; have h9_2 := bx1_; unfold bd at h9_2; have h9_3 := bx2_; unfold bd at h9_3; have h9_4 := b_19; unfold bd at h9_4; have h9_5 := h_13; unfold bd at h9_5; have h8_0 := kb_0; unfold bd at h8_0; omega) (by have h9_0 := b_6; unfold bd at h9_0; have h9_1 := b_3; unfold bd at h9_1; have h9_2 := bx1_; unfold bd at h9_2; have h9_3 := bx2_; unfold bd at h9_3; have h9_4 := b_19; unfold bd at h9_4; have h9_5 := h_13; unfold bd at h9_5; have h8_0 := kb_0; unfold bd at h8_0; omega) (g.fcts [2, 0, 1] rfl)) (cwV 2 hts (gV_ t_2752 t_2754 t_172 t_198 t_2755) rfl rfl rfl (by decide +kernel) ⟨(show N + 980 + 1 ≤ N + 1 + 980 by omega), (show 8 + (15 + 11) + (60 * N + 39317) ≤ 60 * (N + 1) + 39317 by omega)⟩) (pre3VA g hK hAm ma0_ ka0_ (by decide) (q := (RX14, TX14, 67)) rfl) rfl rfl hl.1 rfl (lv_room (Nat.le_of_ble_eq_true rfl)) dX14_goOver_98 ⟨(Nat.le_of_ble_eq_true rfl), (Nat.le_of_ble_eq_true rfl)⟩) g hK (by decide) (by decide) (fx' := [(14, 1, a0_, .ref q0_)]) rfl (fun r_20 fr_20 H locs hp hMr_20 g => ?_)
        obtain ⟨hG_21, hG_22, hx_23, h_24, -⟩ := hp
        have hG_25 := isV.frame hMr_20 go_.2.2.2.1 mq0_ kq0_ (by decide) (by decide) hG_15
        have hG_26 := mOK.frame hMr_20 go_.2.2.2.1 mq0_ kq0_ (by decide) (by decide) hG_16
        obtain ⟨R_27, hR_28, hp_29, hr_30⟩ := hx_23
        have hpf_31 := (((pfx.rf (r := r_)).tr hx_9.2 (Int.le_refl _) (Int.le_refl _)).tr hp_29 (by have h9_0 := b_6; unfold bd at h9_0; have h9_1 := b_3; unfold bd at h9_1; have h9_2 := h_24; unfold bd at h9_2; have h9_3 := bx1_; unfold bd at h9_3; have h9_4 := bx2_; unfold bd at h9_4; have h9_5 := b_19; unfold bd at h9_5; have h9_6 := h_13; unfold bd at h9_6; have h8_0 := kb_0; unfold bd at h8_0; omega) (by have h9_0 := b_6; unfold bd at h9_0; have h9_1 := b_3; unfold bd at h9_1; have h9_2 := h_24; unfold bd at h9_2; have h9_3 := bx1_; unfold bd at h9_3; have h9_4 := bx2_; unfold bd at h9_4; have h9_5 := b_19; unfold bd at h9_5; have h9_6 := h_13; unfold bd at h9_6; have h8_0 := kb_0; unfold bd at h8_0; omega))
        subst hQ
        exact W.zret (v := r_20) hx hb hr (nar_z h_24.1 h_24.2) (fun t ht hW => ⟨⟨_, _, rfl, ⟨hG_21, hG_22, ⟨_, hR_28, hpf_31, hr_30⟩, h_24, trivial⟩, q3_of g hK ht hW⟩, g.2.2.1.F ht⟩) g.2.2.1.2.2 dX14_goOver_101
    · have fc_2 := nle_f c_2
      have b_32 : bd 1 4 r_ := ltR fc_2 kb_0 br_ (by decide)
      refine lv_aload_n hx hb dX14_goOver_73 rfl (lv_at hl 0 rfl) ?_
      have go_ := g
      refine g_calli (va_runV (As := []) (rest := []) ⟨hx, hb, hml, hown, hts⟩ (r_X14_runRow l dC dI L kd tys f0 s.heap.size g.2.2.2.1 adK adV a0_ ma0_ ka0_ q0_ mq0_ kq0_ r_ (bd_sub b_32 (by decide)) k_ bk_ V_ δ_ hW (fun j => aI f0 (rf f0 a0_ 27) j) RW_ OA.refl hWW hV hmo hrw (g.fcts [0, 1, 2] rfl)) (cwV 0 hts (gV_ t_2614 t_2616 t_141 t_198 t_2617) rfl rfl rfl (by decide +kernel) ⟨(show 976 + 1 ≤ N + 1 + 980 by omega), (show 8 + (3 + 11) + 39095 ≤ 60 * (N + 1) + 39317 by omega)⟩) (pre3VA g hK hAm ma0_ ka0_ (by decide) (q := (RX14, TX14, 67)) rfl) rfl rfl hl.1 rfl (lv_room (Nat.le_of_ble_eq_true rfl)) dX14_goOver_74 ⟨(Nat.le_of_ble_eq_true rfl), (Nat.le_of_ble_eq_true rfl)⟩) g hK (by decide) (by decide) (fx' := [(14, 1, a0_, .ref q0_), (14, 51, a0_, .int r_), (14, 52, a0_, .int k_)]) rfl (fun r_33 fr_33 H locs hp hMr_33 g => ?_)
      obtain ⟨hx_34, hF_35⟩ := hp
      have hG_36 := isV.frame hMr_33 go_.2.2.2.1 mq0_ kq0_ (by decide) (by decide) hV
      have hG_37 := isW.frame hMr_33 go_.2.2.2.1 ma0_ ka0_ (by decide) (by decide) hWW
      have hG_38 := mOK.frame hMr_33 go_.2.2.2.1 mq0_ kq0_ (by decide) (by decide) hmo
      have hG_39 := tOK.frame hMr_33 go_.2.2.2.1 ma0_ ka0_ (by decide) (by decide) htk
      have g := g.more hF_35
      refine lv_iconst (v := (-1)) hx hb dX14_goOver_77 (by decide) ?_
      have kb_m1 : bd (-1) (-1) ((-1) : Int32) := ⟨by decide, by decide⟩
      refine lv_icmp_ne (tgt := 83) hx hb dX14_goOver_78 (by decide) (fun c_40 => ?_) (fun c_40 => ?_)
      · have fc_40 := neq_f c_40
        refine lv_aload_n hx hb dX14_goOver_83 rfl (lv_at hl 0 rfl) ?_
        refine g_getk (C := RX14) (T := TX14) (N := 67) hx hb hts (mc_ inX14) hown hK g rfl 51 (by decide) rfl (hts _ (List.mem_cons_of_mem _ t_2197)) (fun _ h9 => h9) 2 rfl dX14_goOver_84 ?_
        refine lv_if_ne (tgt := 102) hx hb dX14_goOver_87 (by decide) (fun c_41 => ?_) (fun c_41 => ?_)
        · have fc_41 := neq_f c_41
          refine lv_aload_n hx hb dX14_goOver_102 rfl (lv_at hl 0 rfl) ?_
          refine g_getk (C := RX14) (T := TX14) (N := 67) hx hb hts (mc_ inX14) hown hK g rfl 51 (by decide) rfl (hts _ (List.mem_cons_of_mem _ t_2197)) (fun _ h9 => h9) 2 rfl dX14_goOver_103 ?_
          refine lv_istore_n (lv' := [(3, .int r_), (0, .ref a0_), (1, .int x1_), (2, .int x2_)]) hx hb dX14_goOver_106 rfl hl (by decide) rfl (fun ls hl => ?_)
          refine lv_aload_n hx hb dX14_goOver_107 rfl (lv_at hl 1 rfl) ?_
          refine g_getk (C := RX14) (T := TX14) (N := 67) hx hb hts (mc_ inX14) hown hK g rfl 52 (by decide) rfl (hts _ (List.mem_cons_of_mem _ t_2198)) (fun _ h9 => h9) 3 rfl dX14_goOver_108 ?_
          refine lv_istore (lv' := [(4, .int k_), (3, .int r_), (0, .ref a0_), (1, .int x1_), (2, .int x2_)]) hx hb dX14_goOver_111 hl (by decide) rfl (fun ls hl => ?_)
          refine lv_iconst (v := 0) hx hb dX14_goOver_113 (by decide) ?_
          refine lv_istore (lv' := [(5, .int 0), (4, .int k_), (3, .int r_), (0, .ref a0_), (1, .int x1_), (2, .int x2_)]) hx hb dX14_goOver_114 hl (by decide) rfl (fun ls hl => ?_)
          have loop_42 : ∀ (n : Nat) (v116_5 : Int32), bd 0 12 v116_5 → (12 - v116_5.toInt < (n : Int)) → ∀ (f : Nat → va_E) (H : Heap) (locs : List Loc) (ls : Array Slot), G3 (dC, dI) L kd tys s f0 [(14, 30), (14, 31), (14, 32), (14, 33), (14, 34), (14, 35), (14, 36), (14, 37), (14, 38), (14, 39), (14, 40), (14, 45), (14, 51), (14, 52), (14, 53), (14, 55), (14, 58), (14, 59), (14, 61), (14, 65), (14, 66)] [200, 215, 216, 217, 218, 219, 220, 221, 222, 223, 224, 225, 226, 227, 228, 229, 230, 231, 232] f H locs [(14, 1, a0_, .ref q0_), (14, 51, a0_, .int r_), (14, 52, a0_, .int k_)] → isV f q0_ V_ → mOK f q0_ V_ → tOK f a0_ V_ → oOK f a0_ V_ → (∃ R : RW, isW f a0_ R ∧ rwOK V_ R r_ k_ ∧ pfx RW_ R r_ k_) → lv_has ls 15 [(5, .int v116_5), (4, .int k_), (3, .int r_), (0, .ref a0_), (1, .int x1_), (2, .int x2_)] → W p l e ({ frames := (N + 1) + 980, cells := 0, slots := 0, locals := 60 * (N + 1) + 39317 } : Room) s m [.ref a0_, .int x1_, .int x2_].toArray below meth c H locs 0 0 Q (F0 m 116 ls []) := by
            intro n116
            induction n116 with
            | zero =>
              intro v116_5 bv116_5 hm116 f H locs ls g hG116_V_q0_ hG116_m_q0_ hG116_t_a0_ hG116_o_a0_ ⟨R116, hW116, hI116, hp116⟩ hl
              exact absurd hm116 (by have h9_v116_5 := bv116_5; unfold bd at h9_v116_5; omega)
            | succ n116 ih116 =>
              intro v116_5 bv116_5 hm116 f H locs ls g hG116_V_q0_ hG116_m_q0_ hG116_t_a0_ hG116_o_a0_ ⟨R116, hW116, hI116, hp116⟩ hl
              refine lv_iload hx hb dX14_goOver_116 (lv_at hl 0 rfl) ?_
              refine lv_aload_n hx hb dX14_goOver_118 rfl (lv_at hl 3 rfl) ?_
              refine g_getk (C := RX14) (T := TX14) (N := 67) hx hb hts (mc_ inX14) hown hK g rfl 1 (by decide) rfl (hts _ (List.mem_cons_of_mem _ t_2147)) (fun _ h9 => h9) 0 rfl dX14_goOver_119 ?_
              refine g_getr (K := 171) (C := RX12) (T := TX12) (N := 60) hx hb hts (mc_ inX12) hown hK g mq0_ kq0_ (by decide) rfl 15 (by decide) rfl (hts _ (List.mem_cons_of_mem _ t_1936)) (fun _ h9 => h9) rfl dX14_goOver_122 (fun a_43 ma_43 ka_43 g => ?_)
              refine lv_iload_n hx hb dX14_goOver_125 rfl (lv_at hl 4 rfl) ?_
              refine g_iald hx hb hK g ma_43 ka_43 (by decide) rfl (in_bd bx1_ (by decide)) dX14_goOver_126 (fun x_44 bx_44 cx_44 => ?_)
              have vx_44 : x_44 = V_.i 15 x1_.toNatClampNeg := hG116_V_q0_.at g 0 rfl rfl cx_44
              refine lv_icmp_ge (tgt := 408) hx hb dX14_goOver_127 (by decide) (fun c_45 => ?_) (fun c_45 => ?_)
              · have fc_45 := le_f c_45
                refine lv_iload hx hb dX14_goOver_408 (lv_at hl 1 rfl) ?_
                refine lv_iconst (v := 3) hx hb dX14_goOver_410 (by decide) ?_
                have kb_3 : bd 3 3 (3 : Int32) := ⟨by decide, by decide⟩
                refine lv_icmp_ne (tgt := 416) hx hb dX14_goOver_411 (by decide) (fun c_46 => ?_) (fun c_46 => ?_)
                · have fc_46 := neq_f c_46
                  have b_47 : bd 0 2 k_ := neX fc_46 bk_ kb_3 (by decide)
                  refine lv_aload_n hx hb dX14_goOver_416 rfl (lv_at hl 3 rfl) ?_
                  refine lv_iload_n hx hb dX14_goOver_417 rfl (lv_at hl 4 rfl) ?_
                  have go_ := g
                  refine g_callv (va_runV (As := [.int x1_]) (rest := []) ⟨hx, hb, hml, hown, hts⟩ (r_X14_addMake l dC dI L kd tys f H.size g.2.2.2.1 a0_ ma0_ ka0_ x1_ bx1_ q0_ mq0_ kq0_ r_ (bd_sub b_32 (by decide)) k_ b_47 V_ δ_ hW R116 hW116 hG116_V_q0_ hI116 hcl (g.fcts [1, 2, 3] rfl)) (cwV 1 hts (gV_ t_2594 t_2596 t_138 t_198 t_2597) rfl rfl rfl (by decide +kernel) ⟨(show 0 + 1 ≤ N + 1 + 980 by omega), (show 8 + (2 + 11) + 0 ≤ 60 * (N + 1) + 39317 by omega)⟩) (pre3V g hK ma0_ ka0_ (by decide) (q := (RX14, TX14, 67)) rfl) rfl rfl hl.1 rfl (lv_room (Nat.le_of_ble_eq_true rfl)) dX14_goOver_418 ⟨(Nat.le_of_ble_eq_true rfl), (Nat.le_of_ble_eq_true rfl)⟩) g hK (by decide) (by decide) (fx' := [(12, 15, q0_, .ref a_43), (14, 1, a0_, .ref q0_)]) rfl (fun fr_48 H locs hp hMr_48 g => ?_)
                  obtain ⟨hx_49, hx_50, x_51, ⟨h_52, rh_52⟩, x_53, ⟨h_54, rh_54⟩, hF_55⟩ := hp
                  have hG_56 := isV.frame hMr_48 go_.2.2.2.1 mq0_ kq0_ (by decide) (by decide) hG116_V_q0_
                  have hG_57 := mOK.frame hMr_48 go_.2.2.2.1 mq0_ kq0_ (by decide) (by decide) hG116_m_q0_
                  have hG_58 := tOK.frame hMr_48 go_.2.2.2.1 ma0_ ka0_ (by decide) (by decide) hG116_t_a0_
                  have hG_59 := oOK.frame hMr_48 go_.2.2.2.1 ma0_ ka0_ (by decide) (by decide) hG116_o_a0_
                  have g := g.more hF_55
                  refine lv_aload_n hx hb dX14_goOver_421 rfl (lv_at hl 3 rfl) ?_
                  refine lv_iload_n hx hb dX14_goOver_422 rfl (lv_at hl 4 rfl) ?_
                  refine lv_iload_n hx hb dX14_goOver_423 rfl (lv_at hl 5 rfl) ?_
                  have b_60 : bd 0 4 x_51 := ⟨(by have h9_0 := b_47; unfold bd at h9_0; have h9_1 := b_32; unfold bd at h9_1; have h9_2 := bv116_5; unfold bd at h9_2; have h9_3 := bx1_; unfold bd at h9_3; have h9_4 := bx2_; unfold bd at h9_4; have h9_5 := bx_44; unfold bd at h9_5; have h9_6 := h_52; unfold bd at h9_6; have h9_7 := h_54; unfold bd at h9_7; have h8_0 := kb_0; unfold bd at h8_0; have h8_1 := kb_3; unfold bd at h8_1; have h8_2 := kb_m1; unfold bd at h8_2; omega), (by have h9_0 := b_47; unfold bd at h9_0; have h9_1 := b_32; unfold bd at h9_1; have h9_2 := bv116_5; unfold bd at h9_2; have h9_3 := bx1_; unfold bd at h9_3; have h9_4 := bx2_; unfold bd at h9_4; have h9_5 := bx_44; unfold bd at h9_5; have h9_6 := h_52; unfold bd at h9_6; have h9_7 := h_54; unfold bd at h9_7; have h8_0 := kb_0; unfold bd at h8_0; have h8_1 := kb_3; unfold bd at h8_1; have h8_2 := kb_m1; unfold bd at h8_2; omega)⟩
                  have go_ := g
                  refine g_calli (va_runV (As := [.int x1_, .int x2_]) (rest := []) ⟨hx, hb, hml, hown, hts⟩ (ih l dC dI L kd tys fr_48 H.size g.2.2.2.1 adK adV a0_ ma0_ ka0_ x1_ bx1_ x2_ bx2_ q0_ mq0_ kq0_ x_51 b_60 x_53 (bd_sub h_54 (by decide)) V_ δ_ hW (R116.adM r_ k_ x1_) hG_56 hx_49 hG_57 hG_59 hG_58 (hx_50.1 _ _ (by have h9_0 := b_47; unfold bd at h9_0; have h9_1 := b_32; unfold bd at h9_1; have h9_2 := bv116_5; unfold bd at h9_2; have h9_3 := bx1_; unfold bd at h9_3; have h9_4 := bx2_; unfold bd at h9_4; have h9_5 := bx_44; unfold bd at h9_5; have h9_6 := b_60; unfold bd at h9_6; have h9_7 := h_54; unfold bd at h9_7; have h8_0 := kb_0; unfold bd at h8_0; have h8_1 := kb_3; unfold bd at h8_1; have h8_2 := kb_m1; unfold bd at h8_2; omega) (by have h9_0 := b_47; unfold bd at h9_0; have h9_1 := b_32; unfold bd at h9_1; have h9_2 := bv116_5; unfold bd at h9_2; have h9_3 := bx1_; unfold bd at h9_3; have h9_4 := bx2_; unfold bd at h9_4; have h9_5 := bx_44; unfold bd at h9_5; have h9_6 := b_60; unfold bd at h9_6; have h9_7 := h_54; unfold bd at h9_7; have h8_0 := kb_0; unfold bd at h8_0; have h8_1 := kb_3; unfold bd at h8_1; have h8_2 := kb_m1; unfold bd at h8_2; omega)) ((hall.pf hp116).ad hx_50 (Or.inr ⟨rfl, adM_c⟩) (by have h9_0 := b_47; unfold bd at h9_0; have h9_1 := b_32; unfold bd at h9_1; have h9_2 := bv116_5; unfold bd at h9_2; have h9_3 := bx1_; unfold bd at h9_3; have h9_4 := bx2_; unfold bd at h9_4; have h9_5 := bx_44; unfold bd at h9_5; have h9_6 := b_60; unfold bd at h9_6; have h9_7 := h_54; unfold bd at h9_7; have h8_0 := kb_0; unfold bd at h8_0; have h8_1 := kb_3; unfold bd at h8_1; have h8_2 := kb_m1; unfold bd at h8_2; omega) (by have h9_0 := b_47; unfold bd at h9_0; have h9_1 := b_32; unfold bd at h9_1; have h9_2 := bv116_5; unfold bd at h9_2; have h9_3 := bx1_; unfold bd at h9_3; have h9_4 := bx2_; unfold bd at h9_4; have h9_5 := bx_44; unfold bd at h9_5; have h9_6 := b_60; unfold bd at h9_6; have h9_7 := h_54; unfold bd at h9_7; have h8_0 := kb_0; unfold bd at h8_0; have h8_1 := kb_3; unfold bd at h8_1; have h8_2 := kb_m1; unfold bd at h8_2; omega)) hcl (by have h9_0 := b_47; unfold bd at h9_0; have h9_1 := b_32; unfold bd at h9_1; have h9_2 := bv116_5; unfold bd at h9_2; have h9_3 := bx1_; unfold bd at h9_3; have h9_4 := bx2_; unfold bd at h9_4; have h9_5 := bx_44; unfold bd at h9_5; have h9_6 := b_60; unfold bd at h9_6; have h9_7 := h_54; unfold bd at h9_7; have h8_0 := kb_0; unfold bd at h8_0; have h8_1 := kb_3; unfold bd at h8_1; have h8_2 := kb_m1; unfold bd at h8_2; omega) (by have h9_0 := b_47; unfold bd at h9_0; have h9_1 := b_32; unfold bd at h9_1; have h9_2 := bv116_5; unfold bd at h9_2; have h9_3 := bx1_; unfold bd at h9_3; have h9_4 := bx2_; unfold bd at h9_4; have h9_5 := bx_44; unfold bd at h9_5; have h9_6 := b_60; unfold bd at h9_6; have h9_7 := h_54; unfold bd at h9_7; have h8_0 := kb_0; unfold bd at h8_0; have h8_1 := kb_3; unfold bd at h8_1; have h8_2 := kb_m1; unfold bd at h8_2; omega) (g.fcts [3, 0, 1] rfl)) (cwV 2 hts (gV_ t_2752 t_2754 t_172 t_198 t_2755) rfl rfl rfl (by decide +kernel) ⟨(show N + 980 + 1 ≤ N + 1 + 980 by omega), (show 8 + (15 + 11) + (60 * N + 39317) ≤ 60 * (N + 1) + 39317 by omega)⟩) (pre3VA g hK hAm ma0_ ka0_ (by decide) (q := (RX14, TX14, 67)) rfl) rfl rfl hl.1 rfl (lv_room (Nat.le_of_ble_eq_true rfl)) dX14_goOver_424 ⟨(Nat.le_of_ble_eq_true rfl), (Nat.le_of_ble_eq_true rfl)⟩) g hK (by decide) (by decide) (fx' := [(12, 15, q0_, .ref a_43), (14, 1, a0_, .ref q0_)]) rfl (fun r_61 fr_61 H locs hp hMr_61 g => ?_)
                  obtain ⟨hG_62, hG_63, hx_64, h_65, -⟩ := hp
                  have hG_66 := isV.frame hMr_61 go_.2.2.2.1 mq0_ kq0_ (by decide) (by decide) hG_56
                  have hG_67 := mOK.frame hMr_61 go_.2.2.2.1 mq0_ kq0_ (by decide) (by decide) hG_57
                  obtain ⟨R_68, hR_69, hp_70, hr_71⟩ := hx_64
                  have hpf_72 := ((hp116.tr hx_50.2 (Int.le_refl _) (Int.le_refl _)).tr hp_70 (by have h9_0 := b_47; unfold bd at h9_0; have h9_1 := b_32; unfold bd at h9_1; have h9_2 := h_65; unfold bd at h9_2; have h9_3 := bv116_5; unfold bd at h9_3; have h9_4 := bx1_; unfold bd at h9_4; have h9_5 := bx2_; unfold bd at h9_5; have h9_6 := bx_44; unfold bd at h9_6; have h9_7 := b_60; unfold bd at h9_7; have h9_8 := h_54; unfold bd at h9_8; have h8_0 := kb_0; unfold bd at h8_0; have h8_1 := kb_3; unfold bd at h8_1; have h8_2 := kb_m1; unfold bd at h8_2; omega) (by have h9_0 := b_47; unfold bd at h9_0; have h9_1 := b_32; unfold bd at h9_1; have h9_2 := h_65; unfold bd at h9_2; have h9_3 := bv116_5; unfold bd at h9_3; have h9_4 := bx1_; unfold bd at h9_4; have h9_5 := bx2_; unfold bd at h9_5; have h9_6 := bx_44; unfold bd at h9_6; have h9_7 := b_60; unfold bd at h9_7; have h9_8 := h_54; unfold bd at h9_8; have h8_0 := kb_0; unfold bd at h8_0; have h8_1 := kb_3; unfold bd at h8_1; have h8_2 := kb_m1; unfold bd at h8_2; omega))
                  refine lv_if_eq (tgt := 432) hx hb dX14_goOver_427 (by decide) (fun c_73 => ?_) (fun c_73 => ?_)
                  · have fc_73 := eq_f c_73
                    have b_74 : bd 0 0 r_61 := eqX fc_73 h_65 kb_0 (by decide)
                    refine lv_aload_n hx hb dX14_goOver_432 rfl (lv_at hl 3 rfl) ?_
                    refine lv_iload_n hx hb dX14_goOver_433 rfl (lv_at hl 2 rfl) ?_
                    have go_ := g
                    refine g_put (C := RX14) (T := TX14) (N := 67) hx hb hts (mc_ inX14) tyX14 tyX14_ok nmX14 hown hK g ma0_ ka0_ (by decide) rfl 51 (by decide) (hts _ (List.mem_cons_of_mem _ t_2197)) (fun _ h9 => h9) rfl rfl (okV_i (bd_sub b_32 (by decide))) rfl rfl (by decide) (Or.inr (Or.inl (by decide))) (fx' := [(12, 15, q0_, .ref a_43), (14, 1, a0_, .ref q0_)]) rfl dX14_goOver_434 (fun f H locs hM_75 g => ?_)
                    have hG_76 := isV.frame hM_75 go_.2.2.2.1 mq0_ kq0_ (by decide) (by decide) hG_66
                    have hG_77 := mOK.frame hM_75 go_.2.2.2.1 mq0_ kq0_ (by decide) (by decide) hG_67
                    have hG_78 := tOK.frame hM_75 go_.2.2.2.1 ma0_ ka0_ (by decide) (by decide) hG_63
                    have hG_79 := oOK.frame hM_75 go_.2.2.2.1 ma0_ ka0_ (by decide) (by decide) hG_62
                    have hG_80 := isW.frame hM_75 go_.2.2.2.1 ma0_ ka0_ (by decide) (by decide) hR_69
                    refine lv_aload_n hx hb dX14_goOver_437 rfl (lv_at hl 3 rfl) ?_
                    refine lv_iload hx hb dX14_goOver_438 (lv_at hl 1 rfl) ?_
                    have go_ := g
                    refine g_put (C := RX14) (T := TX14) (N := 67) hx hb hts (mc_ inX14) tyX14 tyX14_ok nmX14 hown hK g ma0_ ka0_ (by decide) rfl 52 (by decide) (hts _ (List.mem_cons_of_mem _ t_2198)) (fun _ h9 => h9) rfl rfl (okV_i (bd_sub b_47 (by decide))) rfl rfl (by decide) (Or.inr (Or.inl (by decide))) (fx' := [(14, 51, a0_, .int r_), (12, 15, q0_, .ref a_43), (14, 1, a0_, .ref q0_)]) rfl dX14_goOver_440 (fun f H locs hM_81 g => ?_)
                    have hG_82 := isV.frame hM_81 go_.2.2.2.1 mq0_ kq0_ (by decide) (by decide) hG_76
                    have hG_83 := mOK.frame hM_81 go_.2.2.2.1 mq0_ kq0_ (by decide) (by decide) hG_77
                    have hG_84 := tOK.frame hM_81 go_.2.2.2.1 ma0_ ka0_ (by decide) (by decide) hG_78
                    have hG_85 := oOK.frame hM_81 go_.2.2.2.1 ma0_ ka0_ (by decide) (by decide) hG_79
                    have hG_86 := isW.frame hM_81 go_.2.2.2.1 ma0_ ka0_ (by decide) (by decide) hG_80
                    refine lv_iconst (v := 0) hx hb dX14_goOver_443 (by decide) ?_
                    subst hQ
                    exact W.zret (v := 0) hx hb hr (nar_z (bd_sub kb_0 (by decide) : bd 0 1 _).1 (bd_sub kb_0 (by decide) : bd 0 1 _).2) (fun t ht hW => ⟨⟨_, _, rfl, ⟨hG_85, hG_84, ⟨_, hG_86, hpf_72, rw_at g 1 0 rfl rfl (hrw.keep br_.1 hpf_72)⟩, (bd_sub kb_0 (by decide)), trivial⟩, q3_of g hK ht hW⟩, g.2.2.1.F ht⟩) g.2.2.1.2.2 dX14_goOver_444
                  · have fc_73 := neq_f c_73
                    have b_87 : bd 1 1 r_61 := neX fc_73 h_65 kb_0 (by decide)
                    refine lv_iconst (v := 1) hx hb dX14_goOver_430 (by decide) ?_
                    have kb_1 : bd 1 1 (1 : Int32) := ⟨by decide, by decide⟩
                    subst hQ
                    exact W.zret (v := 1) hx hb hr (nar_z (bd_sub kb_1 (by decide) : bd 0 1 _).1 (bd_sub kb_1 (by decide) : bd 0 1 _).2) (fun t ht hW => ⟨⟨_, _, rfl, ⟨hG_62, hG_63, ⟨_, hR_69, hpf_72, hr_71⟩, (bd_sub kb_1 (by decide)), trivial⟩, q3_of g hK ht hW⟩, g.2.2.1.F ht⟩) g.2.2.1.2.2 dX14_goOver_431
                · have fc_46 := eq_f c_46
                  have b_88 : bd 3 3 k_ := eqX fc_46 bk_ kb_3 (by decide)
                  refine lv_iconst (v := 0) hx hb dX14_goOver_414 (by decide) ?_
                  subst hQ
                  exact W.zret (v := 0) hx hb hr (nar_z (bd_sub kb_0 (by decide) : bd 0 1 _).1 (bd_sub kb_0 (by decide) : bd 0 1 _).2) (fun t ht hW => ⟨⟨_, _, rfl, ⟨hG116_o_a0_, hG116_t_a0_, ⟨_, hW116, hp116, rw_at g 2 3 rfl rfl hI116⟩, (bd_sub kb_0 (by decide)), trivial⟩, q3_of g hK ht hW⟩, g.2.2.1.F ht⟩) g.2.2.1.2.2 dX14_goOver_415
              · have fc_45 := nle_f c_45
                have b_89 : bd 0 11 v116_5 := ltL fc_45 bv116_5 bx_44 (by decide)
                have b_90 : bd 1 12 x_44 := ltR fc_45 bv116_5 bx_44 (by decide)
                refine lv_aload_n hx hb dX14_goOver_130 rfl (lv_at hl 3 rfl) ?_
                refine g_getk (C := RX14) (T := TX14) (N := 67) hx hb hts (mc_ inX14) hown hK g rfl 1 (by decide) rfl (hts _ (List.mem_cons_of_mem _ t_2147)) (fun _ h9 => h9) 1 rfl dX14_goOver_131 ?_
                refine g_getr (K := 170) (C := RX12) (T := TX12) (N := 60) hx hb hts (mc_ inX12) hown hK g mq0_ kq0_ (by decide) rfl 14 (by decide) rfl (hts _ (List.mem_cons_of_mem _ t_1934)) (fun _ h9 => h9) rfl dX14_goOver_134 (fun a_91 ma_91 ka_91 g => ?_)
                refine lv_bipush (v := 12) hx hb dX14_goOver_137 (by decide) ?_
                refine lv_iload_n hx hb dX14_goOver_139 rfl (lv_at hl 4 rfl) ?_
                refine lv_imul hx hb dX14_goOver_140 ?_
                refine lv_topi (fun y_92 ey_92 => ?_)
                have ty_92 := cmul_bd ey_92 (c := 12) (by decide) bx1_ (by decide)
                have b_93 : bd 0 84 y_92 := mulc_rg ty_92 bx1_ (by decide)
                refine lv_iload hx hb dX14_goOver_141 (lv_at hl 0 rfl) ?_
                refine lv_iadd hx hb dX14_goOver_143 ?_
                refine lv_topi (fun y_94 ey_94 => ?_)
                have ty_94 := add_bd ey_94 b_93 b_89 (by decide)
                have b_95 : bd 0 95 y_94 := add_rg ty_94 b_93 b_89 (by decide)
                refine g_iald hx hb hK g ma_91 ka_91 (by decide) rfl (in_bd b_95 (by decide)) dX14_goOver_144 (fun x_96 bx_96 cx_96 => ?_)
                have vx_96 : x_96 = V_.i 14 y_94.toNatClampNeg := hG116_V_q0_.at g 0 rfl rfl cx_96
                refine lv_istore (lv' := [(6, .int x_96), (5, .int v116_5), (4, .int k_), (3, .int r_), (0, .ref a0_), (1, .int x1_), (2, .int x2_)]) hx hb dX14_goOver_145 hl (by decide) rfl (fun ls hl => ?_)
                refine lv_aload_n hx hb dX14_goOver_147 rfl (lv_at hl 4 rfl) ?_
                refine g_getk (C := RX14) (T := TX14) (N := 67) hx hb hts (mc_ inX14) hown hK g rfl 1 (by decide) rfl (hts _ (List.mem_cons_of_mem _ t_2147)) (fun _ h9 => h9) 2 rfl dX14_goOver_148 ?_
                refine g_getr (K := 175) (C := RX12) (T := TX12) (N := 60) hx hb hts (mc_ inX12) hown hK g mq0_ kq0_ (by decide) rfl 19 (by decide) rfl (hts _ (List.mem_cons_of_mem _ t_1944)) (fun _ h9 => h9) rfl dX14_goOver_151 (fun a_97 ma_97 ka_97 g => ?_)
                refine lv_iload hx hb dX14_goOver_154 (lv_at hl 0 rfl) ?_
                refine g_iald hx hb hK g ma_97 ka_97 (by decide) rfl (in_bd bx_96 (by decide)) dX14_goOver_156 (fun x_98 bx_98 cx_98 => ?_)
                have vx_98 : x_98 = V_.i 19 x_96.toNatClampNeg := hG116_V_q0_.at g 0 rfl rfl cx_98
                refine lv_if_le (tgt := 170) hx hb dX14_goOver_157 (by decide) (fun c_99 => ?_) (fun c_99 => ?_)
                · have fc_99 := le_f c_99
                  have b_100 : bd 0 0 x_98 := leL fc_99 bx_98 kb_0 (by decide)
                  refine lv_iconst (v := 1) hx hb dX14_goOver_170 (by decide) ?_
                  refine lv_istore (lv' := [(7, .int 1), (6, .int x_96), (5, .int v116_5), (4, .int k_), (3, .int r_), (0, .ref a0_), (1, .int x1_), (2, .int x2_)]) hx hb dX14_goOver_171 hl (by decide) rfl (fun ls hl => ?_)
                  refine lv_aload_n hx hb dX14_goOver_173 rfl (lv_at hl 5 rfl) ?_
                  refine g_getk (C := RX14) (T := TX14) (N := 67) hx hb hts (mc_ inX14) hown hK g rfl 1 (by decide) rfl (hts _ (List.mem_cons_of_mem _ t_2147)) (fun _ h9 => h9) 3 rfl dX14_goOver_174 ?_
                  refine g_getk (C := RX12) (T := TX12) (N := 60) hx hb hts (mc_ inX12) hown hK g rfl 19 (by decide) rfl (hts _ (List.mem_cons_of_mem _ t_1944)) (fun _ h9 => h9) 0 rfl dX14_goOver_177 ?_
                  refine lv_iload hx hb dX14_goOver_180 (lv_at hl 1 rfl) ?_
                  refine g_iald hx hb hK g ma_97 ka_97 (by decide) rfl (in_bd bx_96 (by decide)) dX14_goOver_182 (fun x_101 bx_101 cx_101 => ?_)
                  obtain rfl : x_98 = x_101 := el_same cx_98 cx_101 rfl
                  refine lv_iconst (v := 1) hx hb dX14_goOver_183 (by decide) ?_
                  have kb_1 : bd 1 1 (1 : Int32) := ⟨by decide, by decide⟩
                  refine lv_icmp_le (tgt := 197) hx hb dX14_goOver_184 (by decide) (fun c_102 => ?_) (fun c_102 => ?_)
                  · have fc_102 := le_f c_102
                    refine lv_iconst (v := 1) hx hb dX14_goOver_197 (by decide) ?_
                    refine lv_istore (lv' := [(8, .int 1), (7, .int 1), (6, .int x_96), (5, .int v116_5), (4, .int k_), (3, .int r_), (0, .ref a0_), (1, .int x1_), (2, .int x2_)]) hx hb dX14_goOver_198 hl (by decide) rfl (fun ls hl => ?_)
                    refine lv_aload_n hx hb dX14_goOver_200 rfl (lv_at hl 6 rfl) ?_
                    refine g_getk (C := RX14) (T := TX14) (N := 67) hx hb hts (mc_ inX14) hown hK g rfl 1 (by decide) rfl (hts _ (List.mem_cons_of_mem _ t_2147)) (fun _ h9 => h9) 3 rfl dX14_goOver_201 ?_
                    refine g_getk (C := RX12) (T := TX12) (N := 60) hx hb hts (mc_ inX12) hown hK g rfl 19 (by decide) rfl (hts _ (List.mem_cons_of_mem _ t_1944)) (fun _ h9 => h9) 0 rfl dX14_goOver_204 ?_
                    refine lv_iload hx hb dX14_goOver_207 (lv_at hl 2 rfl) ?_
                    refine g_iald hx hb hK g ma_97 ka_97 (by decide) rfl (in_bd bx_96 (by decide)) dX14_goOver_209 (fun x_103 bx_103 cx_103 => ?_)
                    obtain rfl : x_98 = x_103 := el_same cx_98 cx_103 rfl
                    refine lv_iconst (v := 2) hx hb dX14_goOver_210 (by decide) ?_
                    have kb_2 : bd 2 2 (2 : Int32) := ⟨by decide, by decide⟩
                    refine lv_icmp_le (tgt := 224) hx hb dX14_goOver_211 (by decide) (fun c_104 => ?_) (fun c_104 => ?_)
                    · have fc_104 := le_f c_104
                      refine lv_iconst (v := 1) hx hb dX14_goOver_224 (by decide) ?_
                      refine lv_istore (lv' := [(9, .int 1), (8, .int 1), (7, .int 1), (6, .int x_96), (5, .int v116_5), (4, .int k_), (3, .int r_), (0, .ref a0_), (1, .int x1_), (2, .int x2_)]) hx hb dX14_goOver_225 hl (by decide) rfl (fun ls hl => ?_)
                      refine lv_iconst (v := 0) hx hb dX14_goOver_227 (by decide) ?_
                      refine lv_istore (lv' := [(10, .int 0), (9, .int 1), (8, .int 1), (7, .int 1), (6, .int x_96), (5, .int v116_5), (4, .int k_), (3, .int r_), (0, .ref a0_), (1, .int x1_), (2, .int x2_)]) hx hb dX14_goOver_228 hl (by decide) rfl (fun ls hl => ?_)
                      have loop_105 : ∀ (n : Nat) (v230_10 : Int32), bd 0 3 v230_10 → (3 - v230_10.toInt < (n : Int)) → ∀ (f : Nat → va_E) (H : Heap) (locs : List Loc) (ls : Array Slot), G3 (dC, dI) L kd tys s f0 [(14, 30), (14, 31), (14, 32), (14, 33), (14, 34), (14, 35), (14, 36), (14, 37), (14, 38), (14, 39), (14, 40), (14, 45), (14, 51), (14, 52), (14, 53), (14, 55), (14, 58), (14, 59), (14, 61), (14, 65), (14, 66)] [200, 215, 216, 217, 218, 219, 220, 221, 222, 223, 224, 225, 226, 227, 228, 229, 230, 231, 232] f H locs [(12, 19, q0_, .ref a_97), (12, 14, q0_, .ref a_91), (12, 15, q0_, .ref a_43), (14, 1, a0_, .ref q0_), (14, 51, a0_, .int r_), (14, 52, a0_, .int k_)] → isV f q0_ V_ → mOK f q0_ V_ → tOK f a0_ V_ → oOK f a0_ V_ → (∃ R : RW, isW f a0_ R ∧ rwOK V_ R r_ k_ ∧ pfx RW_ R r_ k_) → lv_has ls 15 [(10, .int v230_10), (9, .int 1), (8, .int 1), (7, .int 1), (6, .int x_96), (5, .int v116_5), (4, .int k_), (3, .int r_), (0, .ref a0_), (1, .int x1_), (2, .int x2_)] → W p l e ({ frames := (N + 1) + 980, cells := 0, slots := 0, locals := 60 * (N + 1) + 39317 } : Room) s m [.ref a0_, .int x1_, .int x2_].toArray below meth c H locs 0 0 Q (F0 m 230 ls []) := by
                        intro n230
                        induction n230 with
                        | zero =>
                          intro v230_10 bv230_10 hm230 f H locs ls g hG230_V_q0_ hG230_m_q0_ hG230_t_a0_ hG230_o_a0_ ⟨R230, hW230, hI230, hp230⟩ hl
                          exact absurd hm230 (by have h9_v230_10 := bv230_10; unfold bd at h9_v230_10; omega)
                        | succ n230 ih230 =>
                          intro v230_10 bv230_10 hm230 f H locs ls g hG230_V_q0_ hG230_m_q0_ hG230_t_a0_ hG230_o_a0_ ⟨R230, hW230, hI230, hp230⟩ hl
                          refine lv_iload hx hb dX14_goOver_230 (lv_at hl 0 rfl) ?_
                          refine lv_iload hx hb dX14_goOver_232 (lv_at hl 6 rfl) ?_
                          refine lv_icmp_ge (tgt := 402) hx hb dX14_goOver_234 (by decide) (fun c_106 => ?_) (fun c_106 => ?_)
                          · have fc_106 := le_f c_106
                            obtain ⟨y_107, ey_107⟩ : ∃ z : Int32, z = v116_5 + 1 := ⟨_, rfl⟩
                            refine lv_iinc (v := y_107) (lv' := [(5, .int y_107), (10, .int v230_10), (9, .int 1), (8, .int 1), (7, .int 1), (6, .int x_96), (4, .int k_), (3, .int r_), (0, .ref a0_), (1, .int x1_), (2, .int x2_)]) hx hb dX14_goOver_402 hl (k := 5) rfl (by rw [ey_107]; rfl) (by decide) rfl (fun ls hl => ?_)
                            have ty_107 := add_bd ey_107 b_89 kb_1 (by decide)
                            have b_108 : bd 1 12 y_107 := add_rg ty_107 b_89 kb_1 (by decide)
                            refine lv_goto (tgt := 116) hx hb dX14_goOver_405 (by decide) ?_
                            have hl9 := lv_sub hl [0, 6, 7, 8, 9, 10] (by rfl : lv_pick [(5, .int y_107), (10, .int v230_10), (9, .int 1), (8, .int 1), (7, .int 1), (6, .int x_96), (4, .int k_), (3, .int r_), (0, .ref a0_), (1, .int x1_), (2, .int x2_)] [0, 6, 7, 8, 9, 10] = [(5, .int y_107), (4, .int k_), (3, .int r_), (0, .ref a0_), (1, .int x1_), (2, .int x2_)])
                            have g9 := g.sub (fx' := [(14, 1, a0_, .ref q0_), (14, 51, a0_, .int r_), (14, 52, a0_, .int k_)]) [3, 4, 5] rfl
                            exact ih116  y_107 (bd_sub b_108 (by decide)) (by have h9_0 := b_108; unfold bd at h9_0; have h9_1 := bv116_5; unfold bd at h9_1; have h9_2 := kb_0; unfold bd at h9_2; have h9_3 := kb_1; unfold bd at h9_3; have h9_4 := kb_2; unfold bd at h9_4; have h9_5 := kb_m1; unfold bd at h9_5; omega) _ _ _ _ g9 hG230_V_q0_ hG230_m_q0_ hG230_t_a0_ hG230_o_a0_ ⟨_, hW230, hI230, hp230⟩ hl9
                          · have fc_106 := nle_f c_106
                            have b_109 : bd 0 2 v230_10 := ltL fc_106 bv230_10 bk_ (by decide)
                            have b_110 : bd 1 3 k_ := ltR fc_106 bv230_10 bk_ (by decide)
                            refine lv_iconst (v := 0) hx hb dX14_goOver_237 (by decide) ?_
                            refine lv_istore (lv' := [(11, .int 0), (10, .int v230_10), (9, .int 1), (8, .int 1), (7, .int 1), (6, .int x_96), (5, .int v116_5), (4, .int k_), (3, .int r_), (0, .ref a0_), (1, .int x1_), (2, .int x2_)]) hx hb dX14_goOver_238 hl (by decide) rfl (fun ls hl => ?_)
                            have loop_111 : ∀ (n : Nat) (v240_11 : Int32), bd 0 1 v240_11 → (1 - v240_11.toInt < (n : Int)) → ∀ (f : Nat → va_E) (H : Heap) (locs : List Loc) (ls : Array Slot), G3 (dC, dI) L kd tys s f0 [(14, 30), (14, 31), (14, 32), (14, 33), (14, 34), (14, 35), (14, 36), (14, 37), (14, 38), (14, 39), (14, 40), (14, 45), (14, 51), (14, 52), (14, 53), (14, 55), (14, 58), (14, 59), (14, 61), (14, 65), (14, 66)] [200, 215, 216, 217, 218, 219, 220, 221, 222, 223, 224, 225, 226, 227, 228, 229, 230, 231, 232] f H locs [(12, 19, q0_, .ref a_97), (12, 14, q0_, .ref a_91), (12, 15, q0_, .ref a_43), (14, 1, a0_, .ref q0_), (14, 51, a0_, .int r_), (14, 52, a0_, .int k_)] → isV f q0_ V_ → mOK f q0_ V_ → tOK f a0_ V_ → oOK f a0_ V_ → (∃ R : RW, isW f a0_ R ∧ rwOK V_ R r_ k_ ∧ pfx RW_ R r_ k_) → lv_has ls 15 [(11, .int v240_11), (10, .int v230_10), (9, .int 1), (8, .int 1), (7, .int 1), (6, .int x_96), (5, .int v116_5), (4, .int k_), (3, .int r_), (0, .ref a0_), (1, .int x1_), (2, .int x2_)] → W p l e ({ frames := (N + 1) + 980, cells := 0, slots := 0, locals := 60 * (N + 1) + 39317 } : Room) s m [.ref a0_, .int x1_, .int x2_].toArray below meth c H locs 0 0 Q (F0 m 240 ls []) := by
                              intro n240
                              induction n240 with
                              | zero =>
                                intro v240_11 bv240_11 hm240 f H locs ls g hG240_V_q0_ hG240_m_q0_ hG240_t_a0_ hG240_o_a0_ ⟨R240, hW240, hI240, hp240⟩ hl
                                exact absurd hm240 (by have h9_v240_11 := bv240_11; unfold bd at h9_v240_11; omega)
                              | succ n240 ih240 =>
                                intro v240_11 bv240_11 hm240 f H locs ls g hG240_V_q0_ hG240_m_q0_ hG240_t_a0_ hG240_o_a0_ ⟨R240, hW240, hI240, hp240⟩ hl
                                refine lv_iload hx hb dX14_goOver_240 (lv_at hl 0 rfl) ?_
                                refine lv_iload hx hb dX14_goOver_242 (lv_at hl 4 rfl) ?_
                                refine lv_iload hx hb dX14_goOver_244 (lv_at hl 3 rfl) ?_
                                refine lv_imul hx hb dX14_goOver_246 ?_
                                refine lv_topi (fun y_112 ey_112 => ?_)
                                obtain rfl : y_112 = 1 := ey_112.trans (by decide)
                                refine lv_iload hx hb dX14_goOver_247 (lv_at hl 2 rfl) ?_
                                refine lv_imul hx hb dX14_goOver_249 ?_
                                refine lv_topi (fun y_113 ey_113 => ?_)
                                obtain rfl : y_113 = 1 := ey_113.trans (by decide)
                                refine lv_icmp_ge (tgt := 396) hx hb dX14_goOver_250 (by decide) (fun c_114 => ?_) (fun c_114 => ?_)
                                · have fc_114 := le_f c_114
                                  have b_115 : bd 1 1 v240_11 := leR fc_114 kb_1 bv240_11 (by decide)
                                  obtain ⟨y_116, ey_116⟩ : ∃ z : Int32, z = v230_10 + 1 := ⟨_, rfl⟩
                                  refine lv_iinc (v := y_116) (lv' := [(10, .int y_116), (11, .int v240_11), (9, .int 1), (8, .int 1), (7, .int 1), (6, .int x_96), (5, .int v116_5), (4, .int k_), (3, .int r_), (0, .ref a0_), (1, .int x1_), (2, .int x2_)]) hx hb dX14_goOver_396 hl (k := 1) rfl (by rw [ey_116]; rfl) (by decide) rfl (fun ls hl => ?_)
                                  have ty_116 := add_bd ey_116 b_109 kb_1 (by decide)
                                  have b_117 : bd 1 3 y_116 := add_rg ty_116 b_109 kb_1 (by decide)
                                  refine lv_goto (tgt := 230) hx hb dX14_goOver_399 (by decide) ?_
                                  have hl9 := lv_sub hl [0, 2, 3, 4, 5, 6, 7, 8, 9, 10, 11] (by rfl : lv_pick [(10, .int y_116), (11, .int v240_11), (9, .int 1), (8, .int 1), (7, .int 1), (6, .int x_96), (5, .int v116_5), (4, .int k_), (3, .int r_), (0, .ref a0_), (1, .int x1_), (2, .int x2_)] [0, 2, 3, 4, 5, 6, 7, 8, 9, 10, 11] = [(10, .int y_116), (9, .int 1), (8, .int 1), (7, .int 1), (6, .int x_96), (5, .int v116_5), (4, .int k_), (3, .int r_), (0, .ref a0_), (1, .int x1_), (2, .int x2_)])
                                  have g9 := g.sub (fx' := [(12, 19, q0_, .ref a_97), (12, 14, q0_, .ref a_91), (12, 15, q0_, .ref a_43), (14, 1, a0_, .ref q0_), (14, 51, a0_, .int r_), (14, 52, a0_, .int k_)]) [0, 1, 2, 3, 4, 5] rfl
                                  exact ih230  y_116 (bd_sub b_117 (by decide)) (by have h9_0 := b_117; unfold bd at h9_0; have h9_1 := bv230_10; unfold bd at h9_1; have h9_2 := kb_0; unfold bd at h9_2; have h9_3 := kb_1; unfold bd at h9_3; have h9_4 := kb_2; unfold bd at h9_4; have h9_5 := kb_m1; unfold bd at h9_5; omega) _ _ _ _ g9 hG240_V_q0_ hG240_m_q0_ hG240_t_a0_ hG240_o_a0_ ⟨_, hW240, hI240, hp240⟩ hl9
                                · have fc_114 := nle_f c_114
                                  have b_118 : bd 0 0 v240_11 := ltL fc_114 bv240_11 kb_1 (by decide)
                                  have join_119 : ∀ (j354_14 : Int32) (j354_13 : Int32) (j354_12 : Int32) (f : Nat → va_E) (H : Heap) (locs : List Loc) (ls : Array Slot), G3 (dC, dI) L kd tys s f0 [(14, 30), (14, 31), (14, 32), (14, 33), (14, 34), (14, 35), (14, 36), (14, 37), (14, 38), (14, 39), (14, 40), (14, 45), (14, 51), (14, 52), (14, 53), (14, 55), (14, 58), (14, 59), (14, 61), (14, 65), (14, 66)] [200, 215, 216, 217, 218, 219, 220, 221, 222, 223, 224, 225, 226, 227, 228, 229, 230, 231, 232] f H locs [(12, 19, q0_, .ref a_97), (12, 14, q0_, .ref a_91), (12, 15, q0_, .ref a_43), (14, 1, a0_, .ref q0_), (14, 51, a0_, .int r_), (14, 52, a0_, .int k_)] → isV f q0_ V_ → mOK f q0_ V_ → tOK f a0_ V_ → oOK f a0_ V_ → isW f a0_ R240 → lv_has ls 15 [(14, .int j354_14), (13, .int j354_13), (12, .int j354_12), (11, .int v240_11), (10, .int v230_10), (9, .int 1), (8, .int 1), (7, .int 1), (6, .int x_96), (5, .int v116_5), (4, .int k_), (3, .int r_), (0, .ref a0_), (1, .int x1_), (2, .int x2_)] → W p l e ({ frames := (N + 1) + 980, cells := 0, slots := 0, locals := 60 * (N + 1) + 39317 } : Room) s m [.ref a0_, .int x1_, .int x2_].toArray below meth c H locs 0 0 Q (F0 m 354 ls []) := by
                                    intro j354_14 j354_13 j354_12 f H locs ls    g hJ354_V_q0_ hJ354_m_q0_ hJ354_t_a0_ hJ354_o_a0_ hJ354_W_a0_ hl
                                    refine lv_aload_n hx hb dX14_goOver_354 rfl (lv_at hl 12 rfl) ?_
                                    refine lv_iload hx hb dX14_goOver_355 (lv_at hl 4 rfl) ?_
                                    refine lv_iload hx hb dX14_goOver_357 (lv_at hl 9 rfl) ?_
                                    refine lv_iload hx hb dX14_goOver_359 (lv_at hl 2 rfl) ?_
                                    refine lv_iload hx hb dX14_goOver_361 (lv_at hl 1 rfl) ?_
                                    refine lv_iload hx hb dX14_goOver_363 (lv_at hl 0 rfl) ?_
                                    have go_ := g
                                    refine g_callv (va_runV (As := [.int v230_10, .int v116_5, .int j354_12, .int j354_13, .int j354_14]) (rest := []) ⟨hx, hb, hml, hown, hts⟩ (r_X14_addCall l dC dI L kd tys f H.size g.2.2.2.1 a0_ ma0_ ka0_ v230_10 b_109 v116_5 b_89 j354_12 j354_13 j354_14 q0_ mq0_ kq0_ r_ (bd_sub b_32 (by decide)) k_ (bd_sub b_110 (by decide)) V_ δ_ hW R240 hJ354_W_a0_ hJ354_V_q0_ hI240 fc_106 (by rw [(hall.pf hp240) v230_10.toNatClampNeg (by rw [tnZ b_109.1]; exact fc_106), ← vx_44]; exact fc_45) (g.fcts [3, 4, 5] rfl)) (cwV 5 hts (gV_ t_2606 t_2608 t_140 t_198 t_2609) rfl rfl rfl (by decide +kernel) ⟨(show 0 + 1 ≤ N + 1 + 980 by omega), (show 8 + (6 + 11) + 0 ≤ 60 * (N + 1) + 39317 by omega)⟩) (pre3V g hK ma0_ ka0_ (by decide) (q := (RX14, TX14, 67)) rfl) rfl rfl hl.1 rfl (lv_room (Nat.le_of_ble_eq_true rfl)) dX14_goOver_365 ⟨(Nat.le_of_ble_eq_true rfl), (Nat.le_of_ble_eq_true rfl)⟩) g hK (by decide) (by decide) (fx' := [(12, 19, q0_, .ref a_97), (12, 14, q0_, .ref a_91), (12, 15, q0_, .ref a_43), (14, 1, a0_, .ref q0_), (14, 52, a0_, .int k_)]) rfl (fun fr_120 H locs hp hMr_120 g => ?_)
                                    obtain ⟨hx_121, hx_122, x_123, ⟨h_124, rh_124⟩, hF_125⟩ := hp
                                    have hG_126 := isV.frame hMr_120 go_.2.2.2.1 mq0_ kq0_ (by decide) (by decide) hJ354_V_q0_
                                    have hG_127 := mOK.frame hMr_120 go_.2.2.2.1 mq0_ kq0_ (by decide) (by decide) hJ354_m_q0_
                                    have hG_128 := tOK.frame hMr_120 go_.2.2.2.1 ma0_ ka0_ (by decide) (by decide) hJ354_t_a0_
                                    have hG_129 := oOK.frame hMr_120 go_.2.2.2.1 ma0_ ka0_ (by decide) (by decide) hJ354_o_a0_
                                    have g := g.more hF_125
                                    refine lv_aload_n hx hb dX14_goOver_368 rfl (lv_at hl 12 rfl) ?_
                                    refine lv_iload_n hx hb dX14_goOver_369 rfl (lv_at hl 13 rfl) ?_
                                    refine lv_iload_n hx hb dX14_goOver_370 rfl (lv_at hl 14 rfl) ?_
                                    have b_130 : bd 0 4 x_123 := ⟨(by have h9_0 := b_110; unfold bd at h9_0; have h9_1 := b_32; unfold bd at h9_1; have h9_2 := b_89; unfold bd at h9_2; have h9_3 := b_109; unfold bd at h9_3; have h9_4 := b_118; unfold bd at h9_4; have h9_5 := bx1_; unfold bd at h9_5; have h9_6 := bx2_; unfold bd at h9_6; have h9_7 := bx_101; unfold bd at h9_7; have h9_8 := bx_103; unfold bd at h9_8; have h9_9 := h_124; unfold bd at h9_9; have h9_10 := b_90; unfold bd at h9_10; have h9_11 := bx_96; unfold bd at h9_11; have h9_12 := b_100; unfold bd at h9_12; have h9_13 := b_93; unfold bd at h9_13; have h9_14 := b_95; unfold bd at h9_14; have h8_0 := kb_0; unfold bd at h8_0; have h8_1 := kb_1; unfold bd at h8_1; have h8_2 := kb_2; unfold bd at h8_2; have h8_3 := kb_m1; unfold bd at h8_3; omega), (by have h9_0 := b_110; unfold bd at h9_0; have h9_1 := b_32; unfold bd at h9_1; have h9_2 := b_89; unfold bd at h9_2; have h9_3 := b_109; unfold bd at h9_3; have h9_4 := b_118; unfold bd at h9_4; have h9_5 := bx1_; unfold bd at h9_5; have h9_6 := bx2_; unfold bd at h9_6; have h9_7 := bx_101; unfold bd at h9_7; have h9_8 := bx_103; unfold bd at h9_8; have h9_9 := h_124; unfold bd at h9_9; have h9_10 := b_90; unfold bd at h9_10; have h9_11 := bx_96; unfold bd at h9_11; have h9_12 := b_100; unfold bd at h9_12; have h9_13 := b_93; unfold bd at h9_13; have h9_14 := b_95; unfold bd at h9_14; have h8_0 := kb_0; unfold bd at h8_0; have h8_1 := kb_1; unfold bd at h8_1; have h8_2 := kb_2; unfold bd at h8_2; have h8_3 := kb_m1; unfold bd at h8_3; omega)⟩
                                    have go_ := g
                                    refine g_calli (va_runV (As := [.int x1_, .int x2_]) (rest := []) ⟨hx, hb, hml, hown, hts⟩ (ih l dC dI L kd tys fr_120 H.size g.2.2.2.1 adK adV a0_ ma0_ ka0_ x1_ bx1_ x2_ bx2_ q0_ mq0_ kq0_ x_123 b_130 k_ (bd_sub b_110 (by decide)) V_ δ_ hW (R240.adC r_ v230_10 v116_5 j354_12 j354_13 j354_14) hG_126 hx_121 hG_127 hG_129 hG_128 (hx_122.1 _ _ (by have h9_0 := b_110; unfold bd at h9_0; have h9_1 := b_32; unfold bd at h9_1; have h9_2 := b_89; unfold bd at h9_2; have h9_3 := b_109; unfold bd at h9_3; have h9_4 := b_118; unfold bd at h9_4; have h9_5 := bx1_; unfold bd at h9_5; have h9_6 := bx2_; unfold bd at h9_6; have h9_7 := bx_101; unfold bd at h9_7; have h9_8 := bx_103; unfold bd at h9_8; have h9_9 := b_130; unfold bd at h9_9; have h9_10 := b_90; unfold bd at h9_10; have h9_11 := bx_96; unfold bd at h9_11; have h9_12 := b_100; unfold bd at h9_12; have h9_13 := b_93; unfold bd at h9_13; have h9_14 := b_95; unfold bd at h9_14; have h8_0 := kb_0; unfold bd at h8_0; have h8_1 := kb_1; unfold bd at h8_1; have h8_2 := kb_2; unfold bd at h8_2; have h8_3 := kb_m1; unfold bd at h8_3; omega) (by have h9_0 := b_110; unfold bd at h9_0; have h9_1 := b_32; unfold bd at h9_1; have h9_2 := b_89; unfold bd at h9_2; have h9_3 := b_109; unfold bd at h9_3; have h9_4 := b_118; unfold bd at h9_4; have h9_5 := bx1_; unfold bd at h9_5; have h9_6 := bx2_; unfold bd at h9_6; have h9_7 := bx_101; unfold bd at h9_7; have h9_8 := bx_103; unfold bd at h9_8; have h9_9 := b_130; unfold bd at h9_9; have h9_10 := b_90; unfold bd at h9_10; have h9_11 := bx_96; unfold bd at h9_11; have h9_12 := b_100; unfold bd at h9_12; have h9_13 := b_93; unfold bd at h9_13; have h9_14 := b_95; unfold bd at h9_14; have h8_0 := kb_0; unfold bd at h8_0; have h8_1 := kb_1; unfold bd at h8_1; have h8_2 := kb_2; unfold bd at h8_2; have h8_3 := kb_m1; unfold bd at h8_3; omega)) ((hall.pf hp240).ad hx_122 (Or.inl rfl) (by have h9_0 := b_110; unfold bd at h9_0; have h9_1 := b_32; unfold bd at h9_1; have h9_2 := b_89; unfold bd at h9_2; have h9_3 := b_109; unfold bd at h9_3; have h9_4 := b_118; unfold bd at h9_4; have h9_5 := bx1_; unfold bd at h9_5; have h9_6 := bx2_; unfold bd at h9_6; have h9_7 := bx_101; unfold bd at h9_7; have h9_8 := bx_103; unfold bd at h9_8; have h9_9 := b_130; unfold bd at h9_9; have h9_10 := b_90; unfold bd at h9_10; have h9_11 := bx_96; unfold bd at h9_11; have h9_12 := b_100; unfold bd at h9_12; have h9_13 := b_93; unfold bd at h9_13; have h9_14 := b_95; unfold bd at h9_14; have h8_0 := kb_0; unfold bd at h8_0; have h8_1 := kb_1; unfold bd at h8_1; have h8_2 := kb_2; unfold bd at h8_2; have h8_3 := kb_m1; unfold bd at h8_3; omega) (by have h9_0 := b_110; unfold bd at h9_0; have h9_1 := b_32; unfold bd at h9_1; have h9_2 := b_89; unfold bd at h9_2; have h9_3 := b_109; unfold bd at h9_3; have h9_4 := b_118; unfold bd at h9_4; have h9_5 := bx1_; unfold bd at h9_5; have h9_6 := bx2_; unfold bd at h9_6; have h9_7 := bx_101; unfold bd at h9_7; have h9_8 := bx_103; unfold bd at h9_8; have h9_9 := b_130; unfold bd at h9_9; have h9_10 := b_90; unfold bd at h9_10; have h9_11 := bx_96; unfold bd at h9_11; have h9_12 := b_100; unfold bd at h9_12; have h9_13 := b_93; unfold bd at h9_13; have h9_14 := b_95; unfold bd at h9_14; have h8_0 := kb_0; unfold bd at h8_0; have h8_1 := kb_1; unfold bd at h8_1; have h8_2 := kb_2; unfold bd at h8_2; have h8_3 := kb_m1; unfold bd at h8_3; omega)) hcl (by have h9_0 := b_110; unfold bd at h9_0; have h9_1 := b_32; unfold bd at h9_1; have h9_2 := b_89; unfold bd at h9_2; have h9_3 := b_109; unfold bd at h9_3; have h9_4 := b_118; unfold bd at h9_4; have h9_5 := bx1_; unfold bd at h9_5; have h9_6 := bx2_; unfold bd at h9_6; have h9_7 := bx_101; unfold bd at h9_7; have h9_8 := bx_103; unfold bd at h9_8; have h9_9 := b_130; unfold bd at h9_9; have h9_10 := b_90; unfold bd at h9_10; have h9_11 := bx_96; unfold bd at h9_11; have h9_12 := b_100; unfold bd at h9_12; have h9_13 := b_93; unfold bd at h9_13; have h9_14 := b_95; unfold bd at h9_14; have h8_0 := kb_0; unfold bd at h8_0; have h8_1 := kb_1; unfold bd at h8_1; have h8_2 := kb_2; unfold bd at h8_2; have h8_3 := kb_m1; unfold bd at h8_3; omega) (by have h9_0 := b_110; unfold bd at h9_0; have h9_1 := b_32; unfold bd at h9_1; have h9_2 := b_89; unfold bd at h9_2; have h9_3 := b_109; unfold bd at h9_3; have h9_4 := b_118; unfold bd at h9_4; have h9_5 := bx1_; unfold bd at h9_5; have h9_6 := bx2_; unfold bd at h9_6; have h9_7 := bx_101; unfold bd at h9_7; have h9_8 := bx_103; unfold bd at h9_8; have h9_9 := b_130; unfold bd at h9_9; have h9_10 := b_90; unfold bd at h9_10; have h9_11 := bx_96; unfold bd at h9_11; have h9_12 := b_100; unfold bd at h9_12; have h9_13 := b_93; unfold bd at h9_13; have h9_14 := b_95; unfold bd at h9_14; have h8_0 := kb_0; unfold bd at h8_0; have h8_1 := kb_1; unfold bd at h8_1; have h8_2 := kb_2; unfold bd at h8_2; have h8_3 := kb_m1; unfold bd at h8_3; omega) (g.fcts [4, 0, 5] rfl)) (cwV 2 hts (gV_ t_2752 t_2754 t_172 t_198 t_2755) rfl rfl rfl (by decide +kernel) ⟨(show N + 980 + 1 ≤ N + 1 + 980 by omega), (show 8 + (15 + 11) + (60 * N + 39317) ≤ 60 * (N + 1) + 39317 by omega)⟩) (pre3VA g hK hAm ma0_ ka0_ (by decide) (q := (RX14, TX14, 67)) rfl) rfl rfl hl.1 rfl (lv_room (Nat.le_of_ble_eq_true rfl)) dX14_goOver_371 ⟨(Nat.le_of_ble_eq_true rfl), (Nat.le_of_ble_eq_true rfl)⟩) g hK (by decide) (by decide) (fx' := [(12, 19, q0_, .ref a_97), (12, 14, q0_, .ref a_91), (12, 15, q0_, .ref a_43), (14, 1, a0_, .ref q0_)]) rfl (fun r_131 fr_131 H locs hp hMr_131 g => ?_)
                                    obtain ⟨hG_132, hG_133, hx_134, h_135, -⟩ := hp
                                    have hG_136 := isV.frame hMr_131 go_.2.2.2.1 mq0_ kq0_ (by decide) (by decide) hG_126
                                    have hG_137 := mOK.frame hMr_131 go_.2.2.2.1 mq0_ kq0_ (by decide) (by decide) hG_127
                                    obtain ⟨R_138, hR_139, hp_140, hr_141⟩ := hx_134
                                    have hpf_142 := ((hp240.tr hx_122.2 (Int.le_refl _) (Int.le_refl _)).tr hp_140 (by have h9_0 := b_110; unfold bd at h9_0; have h9_1 := b_32; unfold bd at h9_1; have h9_2 := h_135; unfold bd at h9_2; have h9_3 := b_89; unfold bd at h9_3; have h9_4 := b_109; unfold bd at h9_4; have h9_5 := b_118; unfold bd at h9_5; have h9_6 := bx1_; unfold bd at h9_6; have h9_7 := bx2_; unfold bd at h9_7; have h9_8 := bx_101; unfold bd at h9_8; have h9_9 := bx_103; unfold bd at h9_9; have h9_10 := b_130; unfold bd at h9_10; have h9_11 := b_90; unfold bd at h9_11; have h9_12 := bx_96; unfold bd at h9_12; have h9_13 := b_100; unfold bd at h9_13; have h9_14 := b_93; unfold bd at h9_14; have h9_15 := b_95; unfold bd at h9_15; have h8_0 := kb_0; unfold bd at h8_0; have h8_1 := kb_1; unfold bd at h8_1; have h8_2 := kb_2; unfold bd at h8_2; have h8_3 := kb_m1; unfold bd at h8_3; omega) (by have h9_0 := b_110; unfold bd at h9_0; have h9_1 := b_32; unfold bd at h9_1; have h9_2 := h_135; unfold bd at h9_2; have h9_3 := b_89; unfold bd at h9_3; have h9_4 := b_109; unfold bd at h9_4; have h9_5 := b_118; unfold bd at h9_5; have h9_6 := bx1_; unfold bd at h9_6; have h9_7 := bx2_; unfold bd at h9_7; have h9_8 := bx_101; unfold bd at h9_8; have h9_9 := bx_103; unfold bd at h9_9; have h9_10 := b_130; unfold bd at h9_10; have h9_11 := b_90; unfold bd at h9_11; have h9_12 := bx_96; unfold bd at h9_12; have h9_13 := b_100; unfold bd at h9_13; have h9_14 := b_93; unfold bd at h9_14; have h9_15 := b_95; unfold bd at h9_15; have h8_0 := kb_0; unfold bd at h8_0; have h8_1 := kb_1; unfold bd at h8_1; have h8_2 := kb_2; unfold bd at h8_2; have h8_3 := kb_m1; unfold bd at h8_3; omega))
                                    refine lv_if_eq (tgt := 379) hx hb dX14_goOver_374 (by decide) (fun c_143 => ?_) (fun c_143 => ?_)
                                    · have fc_143 := eq_f c_143
                                      have b_144 : bd 0 0 r_131 := eqX fc_143 h_135 kb_0 (by decide)
                                      refine lv_aload_n hx hb dX14_goOver_379 rfl (lv_at hl 12 rfl) ?_
                                      refine lv_iload_n hx hb dX14_goOver_380 rfl (lv_at hl 11 rfl) ?_
                                      have go_ := g
                                      refine g_put (C := RX14) (T := TX14) (N := 67) hx hb hts (mc_ inX14) tyX14 tyX14_ok nmX14 hown hK g ma0_ ka0_ (by decide) rfl 51 (by decide) (hts _ (List.mem_cons_of_mem _ t_2197)) (fun _ h9 => h9) rfl rfl (okV_i (bd_sub b_32 (by decide))) rfl rfl (by decide) (Or.inr (Or.inl (by decide))) (fx' := [(12, 19, q0_, .ref a_97), (12, 14, q0_, .ref a_91), (12, 15, q0_, .ref a_43), (14, 1, a0_, .ref q0_)]) rfl dX14_goOver_381 (fun f H locs hM_145 g => ?_)
                                      have hG_146 := isV.frame hM_145 go_.2.2.2.1 mq0_ kq0_ (by decide) (by decide) hG_136
                                      have hG_147 := mOK.frame hM_145 go_.2.2.2.1 mq0_ kq0_ (by decide) (by decide) hG_137
                                      have hG_148 := tOK.frame hM_145 go_.2.2.2.1 ma0_ ka0_ (by decide) (by decide) hG_133
                                      have hG_149 := oOK.frame hM_145 go_.2.2.2.1 ma0_ ka0_ (by decide) (by decide) hG_132
                                      have hG_150 := isW.frame hM_145 go_.2.2.2.1 ma0_ ka0_ (by decide) (by decide) hR_139
                                      refine lv_aload_n hx hb dX14_goOver_384 rfl (lv_at hl 12 rfl) ?_
                                      refine lv_iload hx hb dX14_goOver_385 (lv_at hl 10 rfl) ?_
                                      have go_ := g
                                      refine g_put (C := RX14) (T := TX14) (N := 67) hx hb hts (mc_ inX14) tyX14 tyX14_ok nmX14 hown hK g ma0_ ka0_ (by decide) rfl 52 (by decide) (hts _ (List.mem_cons_of_mem _ t_2198)) (fun _ h9 => h9) rfl rfl (okV_i (bd_sub b_110 (by decide))) rfl rfl (by decide) (Or.inr (Or.inl (by decide))) (fx' := [(14, 51, a0_, .int r_), (12, 19, q0_, .ref a_97), (12, 14, q0_, .ref a_91), (12, 15, q0_, .ref a_43), (14, 1, a0_, .ref q0_)]) rfl dX14_goOver_387 (fun f H locs hM_151 g => ?_)
                                      have hG_152 := isV.frame hM_151 go_.2.2.2.1 mq0_ kq0_ (by decide) (by decide) hG_146
                                      have hG_153 := mOK.frame hM_151 go_.2.2.2.1 mq0_ kq0_ (by decide) (by decide) hG_147
                                      have hG_154 := tOK.frame hM_151 go_.2.2.2.1 ma0_ ka0_ (by decide) (by decide) hG_148
                                      have hG_155 := oOK.frame hM_151 go_.2.2.2.1 ma0_ ka0_ (by decide) (by decide) hG_149
                                      have hG_156 := isW.frame hM_151 go_.2.2.2.1 ma0_ ka0_ (by decide) (by decide) hG_150
                                      obtain ⟨y_157, ey_157⟩ : ∃ z : Int32, z = v240_11 + 1 := ⟨_, rfl⟩
                                      refine lv_iinc (v := y_157) (lv' := [(11, .int y_157), (14, .int j354_14), (13, .int j354_13), (12, .int j354_12), (10, .int v230_10), (9, .int 1), (8, .int 1), (7, .int 1), (6, .int x_96), (5, .int v116_5), (4, .int k_), (3, .int r_), (0, .ref a0_), (1, .int x1_), (2, .int x2_)]) hx hb dX14_goOver_390 hl (k := 3) rfl (by rw [ey_157]; rfl) (by decide) rfl (fun ls hl => ?_)
                                      have ty_157 := add_bd ey_157 b_118 kb_1 (by decide)
                                      have b_158 : bd 1 1 y_157 := add_rg ty_157 b_118 kb_1 (by decide)
                                      refine lv_goto (tgt := 240) hx hb dX14_goOver_393 (by decide) ?_
                                      have hl9 := lv_sub hl [0, 4, 5, 6, 7, 8, 9, 10, 11, 12, 13, 14] (by rfl : lv_pick [(11, .int y_157), (14, .int j354_14), (13, .int j354_13), (12, .int j354_12), (10, .int v230_10), (9, .int 1), (8, .int 1), (7, .int 1), (6, .int x_96), (5, .int v116_5), (4, .int k_), (3, .int r_), (0, .ref a0_), (1, .int x1_), (2, .int x2_)] [0, 4, 5, 6, 7, 8, 9, 10, 11, 12, 13, 14] = [(11, .int y_157), (10, .int v230_10), (9, .int 1), (8, .int 1), (7, .int 1), (6, .int x_96), (5, .int v116_5), (4, .int k_), (3, .int r_), (0, .ref a0_), (1, .int x1_), (2, .int x2_)])
                                      have g9 := g.sub (fx' := [(12, 19, q0_, .ref a_97), (12, 14, q0_, .ref a_91), (12, 15, q0_, .ref a_43), (14, 1, a0_, .ref q0_), (14, 51, a0_, .int r_), (14, 52, a0_, .int k_)]) [2, 3, 4, 5, 1, 0] rfl
                                      exact ih240  y_157 (bd_sub b_158 (by decide)) (by have h9_0 := b_158; unfold bd at h9_0; have h9_1 := bv240_11; unfold bd at h9_1; have h9_2 := kb_0; unfold bd at h9_2; have h9_3 := kb_1; unfold bd at h9_3; have h9_4 := kb_2; unfold bd at h9_4; have h9_5 := kb_m1; unfold bd at h9_5; omega) _ _ _ _ g9 hG_152 hG_153 hG_154 hG_155 ⟨_, hG_156, (hrw.keep br_.1 hpf_142), hpf_142⟩ hl9
                                    · have fc_143 := neq_f c_143
                                      have b_159 : bd 1 1 r_131 := neX fc_143 h_135 kb_0 (by decide)
                                      refine lv_iconst (v := 1) hx hb dX14_goOver_377 (by decide) ?_
                                      subst hQ
                                      exact W.zret (v := 1) hx hb hr (nar_z (bd_sub kb_1 (by decide) : bd 0 1 _).1 (bd_sub kb_1 (by decide) : bd 0 1 _).2) (fun t ht hW => ⟨⟨_, _, rfl, ⟨hG_132, hG_133, ⟨_, hR_139, hpf_142, hr_141⟩, (bd_sub kb_1 (by decide)), trivial⟩, q3_of g hK ht hW⟩, g.2.2.1.F ht⟩) g.2.2.1.2.2 dX14_goOver_378
                                  refine lv_aload_n hx hb dX14_goOver_253 rfl (lv_at hl 9 rfl) ?_
                                  refine g_getk (C := RX14) (T := TX14) (N := 67) hx hb hts (mc_ inX14) hown hK g rfl 1 (by decide) rfl (hts _ (List.mem_cons_of_mem _ t_2147)) (fun _ h9 => h9) 3 rfl dX14_goOver_254 ?_
                                  refine g_getk (C := RX12) (T := TX12) (N := 60) hx hb hts (mc_ inX12) hown hK g rfl 19 (by decide) rfl (hts _ (List.mem_cons_of_mem _ t_1944)) (fun _ h9 => h9) 0 rfl dX14_goOver_257 ?_
                                  refine lv_iload hx hb dX14_goOver_260 (lv_at hl 5 rfl) ?_
                                  refine g_iald hx hb hK g ma_97 ka_97 (by decide) rfl (in_bd bx_96 (by decide)) dX14_goOver_262 (fun x_160 bx_160 cx_160 => ?_)
                                  have vx_160 : x_160 = V_.i 19 x_96.toNatClampNeg := hG240_V_q0_.at g 0 rfl rfl cx_160
                                  refine lv_if_le (tgt := 284) hx hb dX14_goOver_263 (by decide) (fun c_161 => ?_) (fun c_161 => ?_)
                                  · have fc_161 := le_f c_161
                                    have b_162 : bd 0 0 x_160 := leL fc_161 bx_160 kb_0 (by decide)
                                    refine lv_iconst (v := 0) hx hb dX14_goOver_284 (by decide) ?_
                                    refine lv_istore (lv' := [(12, .int 0), (11, .int v240_11), (10, .int v230_10), (9, .int 1), (8, .int 1), (7, .int 1), (6, .int x_96), (5, .int v116_5), (4, .int k_), (3, .int r_), (0, .ref a0_), (1, .int x1_), (2, .int x2_)]) hx hb dX14_goOver_285 hl (by decide) rfl (fun ls hl => ?_)
                                    refine lv_aload_n hx hb dX14_goOver_287 rfl (lv_at hl 10 rfl) ?_
                                    refine g_getk (C := RX14) (T := TX14) (N := 67) hx hb hts (mc_ inX14) hown hK g rfl 1 (by decide) rfl (hts _ (List.mem_cons_of_mem _ t_2147)) (fun _ h9 => h9) 3 rfl dX14_goOver_288 ?_
                                    refine g_getk (C := RX12) (T := TX12) (N := 60) hx hb hts (mc_ inX12) hown hK g rfl 19 (by decide) rfl (hts _ (List.mem_cons_of_mem _ t_1944)) (fun _ h9 => h9) 0 rfl dX14_goOver_291 ?_
                                    refine lv_iload hx hb dX14_goOver_294 (lv_at hl 6 rfl) ?_
                                    refine g_iald hx hb hK g ma_97 ka_97 (by decide) rfl (in_bd bx_96 (by decide)) dX14_goOver_296 (fun x_163 bx_163 cx_163 => ?_)
                                    obtain rfl : x_160 = x_163 := el_same cx_160 cx_163 rfl
                                    refine lv_iconst (v := 1) hx hb dX14_goOver_297 (by decide) ?_
                                    refine lv_icmp_le (tgt := 319) hx hb dX14_goOver_298 (by decide) (fun c_164 => ?_) (fun c_164 => ?_)
                                    · have fc_164 := le_f c_164
                                      refine lv_iconst (v := 0) hx hb dX14_goOver_319 (by decide) ?_
                                      refine lv_istore (lv' := [(13, .int 0), (12, .int 0), (11, .int v240_11), (10, .int v230_10), (9, .int 1), (8, .int 1), (7, .int 1), (6, .int x_96), (5, .int v116_5), (4, .int k_), (3, .int r_), (0, .ref a0_), (1, .int x1_), (2, .int x2_)]) hx hb dX14_goOver_320 hl (by decide) rfl (fun ls hl => ?_)
                                      refine lv_aload_n hx hb dX14_goOver_322 rfl (lv_at hl 11 rfl) ?_
                                      refine g_getk (C := RX14) (T := TX14) (N := 67) hx hb hts (mc_ inX14) hown hK g rfl 1 (by decide) rfl (hts _ (List.mem_cons_of_mem _ t_2147)) (fun _ h9 => h9) 3 rfl dX14_goOver_323 ?_
                                      refine g_getk (C := RX12) (T := TX12) (N := 60) hx hb hts (mc_ inX12) hown hK g rfl 19 (by decide) rfl (hts _ (List.mem_cons_of_mem _ t_1944)) (fun _ h9 => h9) 0 rfl dX14_goOver_326 ?_
                                      refine lv_iload hx hb dX14_goOver_329 (lv_at hl 7 rfl) ?_
                                      refine g_iald hx hb hK g ma_97 ka_97 (by decide) rfl (in_bd bx_96 (by decide)) dX14_goOver_331 (fun x_165 bx_165 cx_165 => ?_)
                                      obtain rfl : x_160 = x_165 := el_same cx_160 cx_165 rfl
                                      refine lv_iconst (v := 2) hx hb dX14_goOver_332 (by decide) ?_
                                      refine lv_icmp_le (tgt := 351) hx hb dX14_goOver_333 (by decide) (fun c_166 => ?_) (fun c_166 => ?_)
                                      · have fc_166 := le_f c_166
                                        refine lv_iconst (v := 0) hx hb dX14_goOver_351 (by decide) ?_
                                        refine lv_istore (lv' := [(14, .int 0), (13, .int 0), (12, .int 0), (11, .int v240_11), (10, .int v230_10), (9, .int 1), (8, .int 1), (7, .int 1), (6, .int x_96), (5, .int v116_5), (4, .int k_), (3, .int r_), (0, .ref a0_), (1, .int x1_), (2, .int x2_)]) hx hb dX14_goOver_352 hl (by decide) rfl (fun ls hl => ?_)
                                        have hl9 := lv_sub hl [0, 1, 2, 3, 4, 5, 6, 7, 8, 9, 10, 11, 12, 13, 14] (by rfl : lv_pick [(14, .int 0), (13, .int 0), (12, .int 0), (11, .int v240_11), (10, .int v230_10), (9, .int 1), (8, .int 1), (7, .int 1), (6, .int x_96), (5, .int v116_5), (4, .int k_), (3, .int r_), (0, .ref a0_), (1, .int x1_), (2, .int x2_)] [0, 1, 2, 3, 4, 5, 6, 7, 8, 9, 10, 11, 12, 13, 14] = [(14, .int 0), (13, .int 0), (12, .int 0), (11, .int v240_11), (10, .int v230_10), (9, .int 1), (8, .int 1), (7, .int 1), (6, .int x_96), (5, .int v116_5), (4, .int k_), (3, .int r_), (0, .ref a0_), (1, .int x1_), (2, .int x2_)])
                                        have g9 := g.sub (fx' := [(12, 19, q0_, .ref a_97), (12, 14, q0_, .ref a_91), (12, 15, q0_, .ref a_43), (14, 1, a0_, .ref q0_), (14, 51, a0_, .int r_), (14, 52, a0_, .int k_)]) [0, 1, 2, 3, 4, 5] rfl
                                        exact join_119 0 0 0 _ _ _ _  g9 hG240_V_q0_ hG240_m_q0_ hG240_t_a0_ hG240_o_a0_ hW240 hl9
                                      · have fc_166 := nle_f c_166
                                        have b_167 : bd 2 (-1) (2 : Int32) := ltL fc_166 kb_2 b_162 (by decide)
                                        exact bd_no (eqX rfl b_167 kb_2 (lo := 2) (hi := (-1)) (by decide)) (by decide)
                                    · have fc_164 := nle_f c_164
                                      have b_168 : bd 1 (-1) (1 : Int32) := ltL fc_164 kb_1 b_162 (by decide)
                                      exact bd_no (eqX rfl b_168 kb_1 (lo := 1) (hi := (-1)) (by decide)) (by decide)
                                  · have fc_161 := nle_f c_161
                                    have b_169 : bd 1 3 x_160 := ltR fc_161 kb_0 bx_160 (by decide)
                                    refine lv_aload_n hx hb dX14_goOver_266 rfl (lv_at hl 9 rfl) ?_
                                    refine lv_iload hx hb dX14_goOver_267 (lv_at hl 5 rfl) ?_
                                    refine lv_iconst (v := 0) hx hb dX14_goOver_269 (by decide) ?_
                                    refine lv_iload hx hb dX14_goOver_270 (lv_at hl 0 rfl) ?_
                                    refine lv_iload hx hb dX14_goOver_272 (lv_at hl 3 rfl) ?_
                                    refine lv_iload hx hb dX14_goOver_274 (lv_at hl 2 rfl) ?_
                                    refine lv_imul hx hb dX14_goOver_276 ?_
                                    refine lv_topi (fun y_170 ey_170 => ?_)
                                    obtain rfl : y_170 = 1 := ey_170.trans (by decide)
                                    refine lv_idiv hx hb dX14_goOver_277 (by decide) ?_
                                    refine lv_topi (fun y_171 ey_171 => ?_)
                                    have b_172 : bd 0 0 y_171 := div_rg ey_171 b_118 kb_1 (by decide)
                                    have go_ := g
                                    refine g_calli (va_runV (As := [.int x_96, .int 0, .int y_171]) (rest := []) ⟨hx, hb, hml, hown, hts⟩ (r_X14_valueOf_4 l dC dI L kd tys f H.size g.2.2.2.1 a0_ ma0_ ka0_ x_96 bx_96 0 kb_0 y_171 b_172 r_ b_32 k_ b_110 (g.fcts [4, 5] rfl)) (cwV 3 hts (gV_ t_2764 t_2766 t_175 t_198 t_2767) rfl rfl rfl (by decide +kernel) ⟨(show 0 + 1 ≤ N + 1 + 980 by omega), (show 8 + (6 + 11) + 0 ≤ 60 * (N + 1) + 39317 by omega)⟩) (pre3V g hK ma0_ ka0_ (by decide) (q := (RX14, TX14, 67)) rfl) rfl rfl hl.1 rfl (lv_room (Nat.le_of_ble_eq_true rfl)) dX14_goOver_278 ⟨(Nat.le_of_ble_eq_true rfl), (Nat.le_of_ble_eq_true rfl)⟩) g hK (by decide) (by decide) (fx' := [(12, 19, q0_, .ref a_97), (12, 14, q0_, .ref a_91), (12, 15, q0_, .ref a_43), (14, 1, a0_, .ref q0_), (14, 51, a0_, .int r_), (14, 52, a0_, .int k_)]) rfl (fun r_173 fr_173 H locs hp hMr_173 g => ?_)
                                    have hG_174 := isV.frame hMr_173 go_.2.2.2.1 mq0_ kq0_ (by decide) (by decide) hG240_V_q0_
                                    have hG_175 := mOK.frame hMr_173 go_.2.2.2.1 mq0_ kq0_ (by decide) (by decide) hG240_m_q0_
                                    have hG_176 := tOK.frame hMr_173 go_.2.2.2.1 ma0_ ka0_ (by decide) (by decide) hG240_t_a0_
                                    have hG_177 := oOK.frame hMr_173 go_.2.2.2.1 ma0_ ka0_ (by decide) (by decide) hG240_o_a0_
                                    have hG_178 := isW.frame hMr_173 go_.2.2.2.1 ma0_ ka0_ (by decide) (by decide) hW240
                                    refine lv_goto (tgt := 285) hx hb dX14_goOver_281 (by decide) ?_
                                    refine lv_istore (lv' := [(12, .int r_173), (11, .int v240_11), (10, .int v230_10), (9, .int 1), (8, .int 1), (7, .int 1), (6, .int x_96), (5, .int v116_5), (4, .int k_), (3, .int r_), (0, .ref a0_), (1, .int x1_), (2, .int x2_)]) hx hb dX14_goOver_285 hl (by decide) rfl (fun ls hl => ?_)
                                    refine lv_aload_n hx hb dX14_goOver_287 rfl (lv_at hl 10 rfl) ?_
                                    refine g_getk (C := RX14) (T := TX14) (N := 67) hx hb hts (mc_ inX14) hown hK g rfl 1 (by decide) rfl (hts _ (List.mem_cons_of_mem _ t_2147)) (fun _ h9 => h9) 3 rfl dX14_goOver_288 ?_
                                    refine g_getk (C := RX12) (T := TX12) (N := 60) hx hb hts (mc_ inX12) hown hK g rfl 19 (by decide) rfl (hts _ (List.mem_cons_of_mem _ t_1944)) (fun _ h9 => h9) 0 rfl dX14_goOver_291 ?_
                                    refine lv_iload hx hb dX14_goOver_294 (lv_at hl 6 rfl) ?_
                                    refine g_iald hx hb hK g ma_97 ka_97 (by decide) rfl (in_bd bx_96 (by decide)) dX14_goOver_296 (fun x_179 bx_179 cx_179 => ?_)
                                    obtain rfl : x_160 = x_179 := el_same cx_160 cx_179 (arr_eq hMr_173 ma_97 ka_97 (by decide) rfl)
                                    refine lv_iconst (v := 1) hx hb dX14_goOver_297 (by decide) ?_
                                    refine lv_icmp_le (tgt := 319) hx hb dX14_goOver_298 (by decide) (fun c_180 => ?_) (fun c_180 => ?_)
                                    · have fc_180 := le_f c_180
                                      have b_181 : bd 1 1 x_160 := leL fc_180 b_169 kb_1 (by decide)
                                      refine lv_iconst (v := 0) hx hb dX14_goOver_319 (by decide) ?_
                                      refine lv_istore (lv' := [(13, .int 0), (12, .int r_173), (11, .int v240_11), (10, .int v230_10), (9, .int 1), (8, .int 1), (7, .int 1), (6, .int x_96), (5, .int v116_5), (4, .int k_), (3, .int r_), (0, .ref a0_), (1, .int x1_), (2, .int x2_)]) hx hb dX14_goOver_320 hl (by decide) rfl (fun ls hl => ?_)
                                      refine lv_aload_n hx hb dX14_goOver_322 rfl (lv_at hl 11 rfl) ?_
                                      refine g_getk (C := RX14) (T := TX14) (N := 67) hx hb hts (mc_ inX14) hown hK g rfl 1 (by decide) rfl (hts _ (List.mem_cons_of_mem _ t_2147)) (fun _ h9 => h9) 3 rfl dX14_goOver_323 ?_
                                      refine g_getk (C := RX12) (T := TX12) (N := 60) hx hb hts (mc_ inX12) hown hK g rfl 19 (by decide) rfl (hts _ (List.mem_cons_of_mem _ t_1944)) (fun _ h9 => h9) 0 rfl dX14_goOver_326 ?_
                                      refine lv_iload hx hb dX14_goOver_329 (lv_at hl 7 rfl) ?_
                                      refine g_iald hx hb hK g ma_97 ka_97 (by decide) rfl (in_bd bx_96 (by decide)) dX14_goOver_331 (fun x_182 bx_182 cx_182 => ?_)
                                      obtain rfl : x_160 = x_182 := el_same cx_160 cx_182 (arr_eq hMr_173 ma_97 ka_97 (by decide) rfl)
                                      refine lv_iconst (v := 2) hx hb dX14_goOver_332 (by decide) ?_
                                      refine lv_icmp_le (tgt := 351) hx hb dX14_goOver_333 (by decide) (fun c_183 => ?_) (fun c_183 => ?_)
                                      · have fc_183 := le_f c_183
                                        refine lv_iconst (v := 0) hx hb dX14_goOver_351 (by decide) ?_
                                        refine lv_istore (lv' := [(14, .int 0), (13, .int 0), (12, .int r_173), (11, .int v240_11), (10, .int v230_10), (9, .int 1), (8, .int 1), (7, .int 1), (6, .int x_96), (5, .int v116_5), (4, .int k_), (3, .int r_), (0, .ref a0_), (1, .int x1_), (2, .int x2_)]) hx hb dX14_goOver_352 hl (by decide) rfl (fun ls hl => ?_)
                                        have hl9 := lv_sub hl [0, 1, 2, 3, 4, 5, 6, 7, 8, 9, 10, 11, 12, 13, 14] (by rfl : lv_pick [(14, .int 0), (13, .int 0), (12, .int r_173), (11, .int v240_11), (10, .int v230_10), (9, .int 1), (8, .int 1), (7, .int 1), (6, .int x_96), (5, .int v116_5), (4, .int k_), (3, .int r_), (0, .ref a0_), (1, .int x1_), (2, .int x2_)] [0, 1, 2, 3, 4, 5, 6, 7, 8, 9, 10, 11, 12, 13, 14] = [(14, .int 0), (13, .int 0), (12, .int r_173), (11, .int v240_11), (10, .int v230_10), (9, .int 1), (8, .int 1), (7, .int 1), (6, .int x_96), (5, .int v116_5), (4, .int k_), (3, .int r_), (0, .ref a0_), (1, .int x1_), (2, .int x2_)])
                                        have g9 := g.sub (fx' := [(12, 19, q0_, .ref a_97), (12, 14, q0_, .ref a_91), (12, 15, q0_, .ref a_43), (14, 1, a0_, .ref q0_), (14, 51, a0_, .int r_), (14, 52, a0_, .int k_)]) [0, 1, 2, 3, 4, 5] rfl
                                        exact join_119 0 0 r_173 _ _ _ _  g9 hG_174 hG_175 hG_176 hG_177 hG_178 hl9
                                      · have fc_183 := nle_f c_183
                                        have b_184 : bd 2 0 (2 : Int32) := ltL fc_183 kb_2 b_181 (by decide)
                                        exact bd_no (eqX rfl b_184 kb_2 (lo := 2) (hi := 0) (by decide)) (by decide)
                                    · have fc_180 := nle_f c_180
                                      have b_185 : bd 2 3 x_160 := ltR fc_180 kb_1 b_169 (by decide)
                                      refine lv_aload_n hx hb dX14_goOver_301 rfl (lv_at hl 10 rfl) ?_
                                      refine lv_iload hx hb dX14_goOver_302 (lv_at hl 6 rfl) ?_
                                      refine lv_iconst (v := 1) hx hb dX14_goOver_304 (by decide) ?_
                                      refine lv_iload hx hb dX14_goOver_305 (lv_at hl 1 rfl) ?_
                                      refine lv_iload hx hb dX14_goOver_307 (lv_at hl 3 rfl) ?_
                                      refine lv_idiv hx hb dX14_goOver_309 (by decide) ?_
                                      refine lv_topi (fun y_186 ey_186 => ?_)
                                      obtain rfl : y_171 = y_186 := ey_171.trans ey_186.symm
                                      refine lv_iload hx hb dX14_goOver_310 (lv_at hl 4 rfl) ?_
                                      refine lv_irem hx hb dX14_goOver_312 (by decide) ?_
                                      refine lv_topi (fun y_187 ey_187 => ?_)
                                      have b_188 : bd 0 0 y_187 := rem_rg ey_187 b_172 kb_1 (by decide)
                                      have go_ := g
                                      refine g_calli (va_runV (As := [.int x_96, .int 1, .int y_187]) (rest := []) ⟨hx, hb, hml, hown, hts⟩ (r_X14_valueOf_5 l dC dI L kd tys fr_173 H.size g.2.2.2.1 a0_ ma0_ ka0_ x_96 bx_96 1 kb_1 y_187 b_188 r_ b_32 k_ b_110 (g.fcts [4, 5] rfl)) (cwV 3 hts (gV_ t_2764 t_2766 t_175 t_198 t_2767) rfl rfl rfl (by decide +kernel) ⟨(show 0 + 1 ≤ N + 1 + 980 by omega), (show 8 + (6 + 11) + 0 ≤ 60 * (N + 1) + 39317 by omega)⟩) (pre3V g hK ma0_ ka0_ (by decide) (q := (RX14, TX14, 67)) rfl) rfl rfl hl.1 rfl (lv_room (Nat.le_of_ble_eq_true rfl)) dX14_goOver_313 ⟨(Nat.le_of_ble_eq_true rfl), (Nat.le_of_ble_eq_true rfl)⟩) g hK (by decide) (by decide) (fx' := [(12, 19, q0_, .ref a_97), (12, 14, q0_, .ref a_91), (12, 15, q0_, .ref a_43), (14, 1, a0_, .ref q0_), (14, 51, a0_, .int r_), (14, 52, a0_, .int k_)]) rfl (fun r_189 fr_189 H locs hp hMr_189 g => ?_)
                                      have hG_190 := isV.frame hMr_189 go_.2.2.2.1 mq0_ kq0_ (by decide) (by decide) hG_174
                                      have hG_191 := mOK.frame hMr_189 go_.2.2.2.1 mq0_ kq0_ (by decide) (by decide) hG_175
                                      have hG_192 := tOK.frame hMr_189 go_.2.2.2.1 ma0_ ka0_ (by decide) (by decide) hG_176
                                      have hG_193 := oOK.frame hMr_189 go_.2.2.2.1 ma0_ ka0_ (by decide) (by decide) hG_177
                                      have hG_194 := isW.frame hMr_189 go_.2.2.2.1 ma0_ ka0_ (by decide) (by decide) hG_178
                                      refine lv_goto (tgt := 320) hx hb dX14_goOver_316 (by decide) ?_
                                      refine lv_istore (lv' := [(13, .int r_189), (12, .int r_173), (11, .int v240_11), (10, .int v230_10), (9, .int 1), (8, .int 1), (7, .int 1), (6, .int x_96), (5, .int v116_5), (4, .int k_), (3, .int r_), (0, .ref a0_), (1, .int x1_), (2, .int x2_)]) hx hb dX14_goOver_320 hl (by decide) rfl (fun ls hl => ?_)
                                      refine lv_aload_n hx hb dX14_goOver_322 rfl (lv_at hl 11 rfl) ?_
                                      refine g_getk (C := RX14) (T := TX14) (N := 67) hx hb hts (mc_ inX14) hown hK g rfl 1 (by decide) rfl (hts _ (List.mem_cons_of_mem _ t_2147)) (fun _ h9 => h9) 3 rfl dX14_goOver_323 ?_
                                      refine g_getk (C := RX12) (T := TX12) (N := 60) hx hb hts (mc_ inX12) hown hK g rfl 19 (by decide) rfl (hts _ (List.mem_cons_of_mem _ t_1944)) (fun _ h9 => h9) 0 rfl dX14_goOver_326 ?_
                                      refine lv_iload hx hb dX14_goOver_329 (lv_at hl 7 rfl) ?_
                                      refine g_iald hx hb hK g ma_97 ka_97 (by decide) rfl (in_bd bx_96 (by decide)) dX14_goOver_331 (fun x_195 bx_195 cx_195 => ?_)
                                      obtain rfl : x_160 = x_195 := el_same cx_160 cx_195 ((arr_eq hMr_189 ma_97 ka_97 (by decide) rfl).trans (arr_eq hMr_173 ma_97 ka_97 (by decide) rfl))
                                      refine lv_iconst (v := 2) hx hb dX14_goOver_332 (by decide) ?_
                                      refine lv_icmp_le (tgt := 351) hx hb dX14_goOver_333 (by decide) (fun c_196 => ?_) (fun c_196 => ?_)
                                      · have fc_196 := le_f c_196
                                        have b_197 : bd 2 2 x_160 := leL fc_196 b_185 kb_2 (by decide)
                                        refine lv_iconst (v := 0) hx hb dX14_goOver_351 (by decide) ?_
                                        refine lv_istore (lv' := [(14, .int 0), (13, .int r_189), (12, .int r_173), (11, .int v240_11), (10, .int v230_10), (9, .int 1), (8, .int 1), (7, .int 1), (6, .int x_96), (5, .int v116_5), (4, .int k_), (3, .int r_), (0, .ref a0_), (1, .int x1_), (2, .int x2_)]) hx hb dX14_goOver_352 hl (by decide) rfl (fun ls hl => ?_)
                                        have hl9 := lv_sub hl [0, 1, 2, 3, 4, 5, 6, 7, 8, 9, 10, 11, 12, 13, 14] (by rfl : lv_pick [(14, .int 0), (13, .int r_189), (12, .int r_173), (11, .int v240_11), (10, .int v230_10), (9, .int 1), (8, .int 1), (7, .int 1), (6, .int x_96), (5, .int v116_5), (4, .int k_), (3, .int r_), (0, .ref a0_), (1, .int x1_), (2, .int x2_)] [0, 1, 2, 3, 4, 5, 6, 7, 8, 9, 10, 11, 12, 13, 14] = [(14, .int 0), (13, .int r_189), (12, .int r_173), (11, .int v240_11), (10, .int v230_10), (9, .int 1), (8, .int 1), (7, .int 1), (6, .int x_96), (5, .int v116_5), (4, .int k_), (3, .int r_), (0, .ref a0_), (1, .int x1_), (2, .int x2_)])
                                        have g9 := g.sub (fx' := [(12, 19, q0_, .ref a_97), (12, 14, q0_, .ref a_91), (12, 15, q0_, .ref a_43), (14, 1, a0_, .ref q0_), (14, 51, a0_, .int r_), (14, 52, a0_, .int k_)]) [0, 1, 2, 3, 4, 5] rfl
                                        exact join_119 0 r_189 r_173 _ _ _ _  g9 hG_190 hG_191 hG_192 hG_193 hG_194 hl9
                                      · have fc_196 := nle_f c_196
                                        have b_198 : bd 3 3 x_160 := ltR fc_196 kb_2 b_185 (by decide)
                                        refine lv_aload_n hx hb dX14_goOver_336 rfl (lv_at hl 11 rfl) ?_
                                        refine lv_iload hx hb dX14_goOver_337 (lv_at hl 7 rfl) ?_
                                        refine lv_iconst (v := 2) hx hb dX14_goOver_339 (by decide) ?_
                                        refine lv_iload hx hb dX14_goOver_340 (lv_at hl 2 rfl) ?_
                                        refine lv_iload hx hb dX14_goOver_342 (lv_at hl 4 rfl) ?_
                                        refine lv_irem hx hb dX14_goOver_344 (by decide) ?_
                                        refine lv_topi (fun y_199 ey_199 => ?_)
                                        have b_200 : bd 0 0 y_199 := rem_rg ey_199 b_118 kb_1 (by decide)
                                        have go_ := g
                                        refine g_calli (va_runV (As := [.int x_96, .int 2, .int y_199]) (rest := []) ⟨hx, hb, hml, hown, hts⟩ (r_X14_valueOf_6 l dC dI L kd tys fr_189 H.size g.2.2.2.1 a0_ ma0_ ka0_ x_96 bx_96 2 kb_2 y_199 b_200 r_ b_32 k_ b_110 (g.fcts [4, 5] rfl)) (cwV 3 hts (gV_ t_2764 t_2766 t_175 t_198 t_2767) rfl rfl rfl (by decide +kernel) ⟨(show 0 + 1 ≤ N + 1 + 980 by omega), (show 8 + (6 + 11) + 0 ≤ 60 * (N + 1) + 39317 by omega)⟩) (pre3V g hK ma0_ ka0_ (by decide) (q := (RX14, TX14, 67)) rfl) rfl rfl hl.1 rfl (lv_room (Nat.le_of_ble_eq_true rfl)) dX14_goOver_345 ⟨(Nat.le_of_ble_eq_true rfl), (Nat.le_of_ble_eq_true rfl)⟩) g hK (by decide) (by decide) (fx' := [(12, 19, q0_, .ref a_97), (12, 14, q0_, .ref a_91), (12, 15, q0_, .ref a_43), (14, 1, a0_, .ref q0_), (14, 51, a0_, .int r_), (14, 52, a0_, .int k_)]) rfl (fun r_201 fr_201 H locs hp hMr_201 g => ?_)
                                        have hG_202 := isV.frame hMr_201 go_.2.2.2.1 mq0_ kq0_ (by decide) (by decide) hG_190
                                        have hG_203 := mOK.frame hMr_201 go_.2.2.2.1 mq0_ kq0_ (by decide) (by decide) hG_191
                                        have hG_204 := tOK.frame hMr_201 go_.2.2.2.1 ma0_ ka0_ (by decide) (by decide) hG_192
                                        have hG_205 := oOK.frame hMr_201 go_.2.2.2.1 ma0_ ka0_ (by decide) (by decide) hG_193
                                        have hG_206 := isW.frame hMr_201 go_.2.2.2.1 ma0_ ka0_ (by decide) (by decide) hG_194
                                        refine lv_goto (tgt := 352) hx hb dX14_goOver_348 (by decide) ?_
                                        refine lv_istore (lv' := [(14, .int r_201), (13, .int r_189), (12, .int r_173), (11, .int v240_11), (10, .int v230_10), (9, .int 1), (8, .int 1), (7, .int 1), (6, .int x_96), (5, .int v116_5), (4, .int k_), (3, .int r_), (0, .ref a0_), (1, .int x1_), (2, .int x2_)]) hx hb dX14_goOver_352 hl (by decide) rfl (fun ls hl => ?_)
                                        have hl9 := lv_sub hl [0, 1, 2, 3, 4, 5, 6, 7, 8, 9, 10, 11, 12, 13, 14] (by rfl : lv_pick [(14, .int r_201), (13, .int r_189), (12, .int r_173), (11, .int v240_11), (10, .int v230_10), (9, .int 1), (8, .int 1), (7, .int 1), (6, .int x_96), (5, .int v116_5), (4, .int k_), (3, .int r_), (0, .ref a0_), (1, .int x1_), (2, .int x2_)] [0, 1, 2, 3, 4, 5, 6, 7, 8, 9, 10, 11, 12, 13, 14] = [(14, .int r_201), (13, .int r_189), (12, .int r_173), (11, .int v240_11), (10, .int v230_10), (9, .int 1), (8, .int 1), (7, .int 1), (6, .int x_96), (5, .int v116_5), (4, .int k_), (3, .int r_), (0, .ref a0_), (1, .int x1_), (2, .int x2_)])
                                        have g9 := g.sub (fx' := [(12, 19, q0_, .ref a_97), (12, 14, q0_, .ref a_91), (12, 15, q0_, .ref a_43), (14, 1, a0_, .ref q0_), (14, 51, a0_, .int r_), (14, 52, a0_, .int k_)]) [0, 1, 2, 3, 4, 5] rfl
                                        exact join_119 r_201 r_189 r_173 _ _ _ _  g9 hG_202 hG_203 hG_204 hG_205 hG_206 hl9
                            have hl9 := lv_sub hl [0, 1, 2, 3, 4, 5, 6, 7, 8, 9, 10, 11] (by rfl : lv_pick [(11, .int 0), (10, .int v230_10), (9, .int 1), (8, .int 1), (7, .int 1), (6, .int x_96), (5, .int v116_5), (4, .int k_), (3, .int r_), (0, .ref a0_), (1, .int x1_), (2, .int x2_)] [0, 1, 2, 3, 4, 5, 6, 7, 8, 9, 10, 11] = [(11, .int 0), (10, .int v230_10), (9, .int 1), (8, .int 1), (7, .int 1), (6, .int x_96), (5, .int v116_5), (4, .int k_), (3, .int r_), (0, .ref a0_), (1, .int x1_), (2, .int x2_)])
                            have g9 := g.sub (fx' := [(12, 19, q0_, .ref a_97), (12, 14, q0_, .ref a_91), (12, 15, q0_, .ref a_43), (14, 1, a0_, .ref q0_), (14, 51, a0_, .int r_), (14, 52, a0_, .int k_)]) [0, 1, 2, 3, 4, 5] rfl
                            exact loop_111 (5) 0 (bd_sub kb_0 (by decide)) (by have h9_0 := kb_0; unfold bd at h9_0; have h9_1 := kb_1; unfold bd at h9_1; have h9_2 := kb_2; unfold bd at h9_2; have h9_3 := kb_m1; unfold bd at h9_3; omega) _ _ _ _ g9 hG230_V_q0_ hG230_m_q0_ hG230_t_a0_ hG230_o_a0_ ⟨_, hW230, hI230, hp230⟩ hl9
                      have hl9 := lv_sub hl [0, 1, 2, 3, 4, 5, 6, 7, 8, 9, 10] (by rfl : lv_pick [(10, .int 0), (9, .int 1), (8, .int 1), (7, .int 1), (6, .int x_96), (5, .int v116_5), (4, .int k_), (3, .int r_), (0, .ref a0_), (1, .int x1_), (2, .int x2_)] [0, 1, 2, 3, 4, 5, 6, 7, 8, 9, 10] = [(10, .int 0), (9, .int 1), (8, .int 1), (7, .int 1), (6, .int x_96), (5, .int v116_5), (4, .int k_), (3, .int r_), (0, .ref a0_), (1, .int x1_), (2, .int x2_)])
                      have g9 := g.sub (fx' := [(12, 19, q0_, .ref a_97), (12, 14, q0_, .ref a_91), (12, 15, q0_, .ref a_43), (14, 1, a0_, .ref q0_), (14, 51, a0_, .int r_), (14, 52, a0_, .int k_)]) [0, 1, 2, 3, 4, 5] rfl
                      exact loop_105 (9) 0 (bd_sub kb_0 (by decide)) (by have h9_0 := kb_0; unfold bd at h9_0; have h9_1 := kb_1; unfold bd at h9_1; have h9_2 := kb_2; unfold bd at h9_2; have h9_3 := kb_m1; unfold bd at h9_3; omega) _ _ _ _ g9 hG116_V_q0_ hG116_m_q0_ hG116_t_a0_ hG116_o_a0_ ⟨_, hW116, hI116, hp116⟩ hl9
                    · have fc_104 := nle_f c_104
                      have b_207 : bd 2 (-1) (2 : Int32) := ltL fc_104 kb_2 b_100 (by decide)
                      exact bd_no (eqX rfl b_207 kb_2 (lo := 2) (hi := (-1)) (by decide)) (by decide)
                  · have fc_102 := nle_f c_102
                    have b_208 : bd 1 (-1) (1 : Int32) := ltL fc_102 kb_1 b_100 (by decide)
                    exact bd_no (eqX rfl b_208 kb_1 (lo := 1) (hi := (-1)) (by decide)) (by decide)
                · have fc_99 := nle_f c_99
                  have b_209 : bd 1 3 x_98 := ltR fc_99 kb_0 bx_98 (by decide)
                  refine lv_aload_n hx hb dX14_goOver_160 rfl (lv_at hl 4 rfl) ?_
                  refine lv_iload hx hb dX14_goOver_161 (lv_at hl 0 rfl) ?_
                  refine lv_iconst (v := 0) hx hb dX14_goOver_163 (by decide) ?_
                  have go_ := g
                  refine g_calli (va_runV (As := [.int x_96, .int 0]) (rest := []) ⟨hx, hb, hml, hown, hts⟩ (r_X14_values_4 l dC dI L kd tys f H.size g.2.2.2.1 a0_ ma0_ ka0_ x_96 bx_96 0 kb_0 r_ b_32 (g.fcts [4] rfl)) (cwV 2 hts (gV_ t_2760 t_2762 t_174 t_198 t_2763) rfl rfl rfl (by decide +kernel) ⟨(show 0 + 1 ≤ N + 1 + 980 by omega), (show 8 + (5 + 11) + 0 ≤ 60 * (N + 1) + 39317 by omega)⟩) (pre3V g hK ma0_ ka0_ (by decide) (q := (RX14, TX14, 67)) rfl) rfl rfl hl.1 rfl (lv_room (Nat.le_of_ble_eq_true rfl)) dX14_goOver_164 ⟨(Nat.le_of_ble_eq_true rfl), (Nat.le_of_ble_eq_true rfl)⟩) g hK (by decide) (by decide) (fx' := [(12, 19, q0_, .ref a_97), (12, 14, q0_, .ref a_91), (12, 15, q0_, .ref a_43), (14, 1, a0_, .ref q0_), (14, 51, a0_, .int r_), (14, 52, a0_, .int k_)]) rfl (fun r_210 fr_210 H locs hp hMr_210 g => ?_)
                  obtain ⟨h_211, -⟩ := hp
                  have hG_212 := isV.frame hMr_210 go_.2.2.2.1 mq0_ kq0_ (by decide) (by decide) hG116_V_q0_
                  have hG_213 := mOK.frame hMr_210 go_.2.2.2.1 mq0_ kq0_ (by decide) (by decide) hG116_m_q0_
                  have hG_214 := tOK.frame hMr_210 go_.2.2.2.1 ma0_ ka0_ (by decide) (by decide) hG116_t_a0_
                  have hG_215 := oOK.frame hMr_210 go_.2.2.2.1 ma0_ ka0_ (by decide) (by decide) hG116_o_a0_
                  have hG_216 := isW.frame hMr_210 go_.2.2.2.1 ma0_ ka0_ (by decide) (by decide) hW116
                  refine lv_goto (tgt := 171) hx hb dX14_goOver_167 (by decide) ?_
                  refine lv_istore (lv' := [(7, .int r_210), (6, .int x_96), (5, .int v116_5), (4, .int k_), (3, .int r_), (0, .ref a0_), (1, .int x1_), (2, .int x2_)]) hx hb dX14_goOver_171 hl (by decide) rfl (fun ls hl => ?_)
                  refine lv_aload_n hx hb dX14_goOver_173 rfl (lv_at hl 5 rfl) ?_
                  refine g_getk (C := RX14) (T := TX14) (N := 67) hx hb hts (mc_ inX14) hown hK g rfl 1 (by decide) rfl (hts _ (List.mem_cons_of_mem _ t_2147)) (fun _ h9 => h9) 3 rfl dX14_goOver_174 ?_
                  refine g_getk (C := RX12) (T := TX12) (N := 60) hx hb hts (mc_ inX12) hown hK g rfl 19 (by decide) rfl (hts _ (List.mem_cons_of_mem _ t_1944)) (fun _ h9 => h9) 0 rfl dX14_goOver_177 ?_
                  refine lv_iload hx hb dX14_goOver_180 (lv_at hl 1 rfl) ?_
                  refine g_iald hx hb hK g ma_97 ka_97 (by decide) rfl (in_bd bx_96 (by decide)) dX14_goOver_182 (fun x_217 bx_217 cx_217 => ?_)
                  obtain rfl : x_98 = x_217 := el_same cx_98 cx_217 (arr_eq hMr_210 ma_97 ka_97 (by decide) rfl)
                  refine lv_iconst (v := 1) hx hb dX14_goOver_183 (by decide) ?_
                  have kb_1 : bd 1 1 (1 : Int32) := ⟨by decide, by decide⟩
                  refine lv_icmp_le (tgt := 197) hx hb dX14_goOver_184 (by decide) (fun c_218 => ?_) (fun c_218 => ?_)
                  · have fc_218 := le_f c_218
                    have b_219 : bd 1 1 x_98 := leL fc_218 b_209 kb_1 (by decide)
                    refine lv_iconst (v := 1) hx hb dX14_goOver_197 (by decide) ?_
                    refine lv_istore (lv' := [(8, .int 1), (7, .int r_210), (6, .int x_96), (5, .int v116_5), (4, .int k_), (3, .int r_), (0, .ref a0_), (1, .int x1_), (2, .int x2_)]) hx hb dX14_goOver_198 hl (by decide) rfl (fun ls hl => ?_)
                    refine lv_aload_n hx hb dX14_goOver_200 rfl (lv_at hl 6 rfl) ?_
                    refine g_getk (C := RX14) (T := TX14) (N := 67) hx hb hts (mc_ inX14) hown hK g rfl 1 (by decide) rfl (hts _ (List.mem_cons_of_mem _ t_2147)) (fun _ h9 => h9) 3 rfl dX14_goOver_201 ?_
                    refine g_getk (C := RX12) (T := TX12) (N := 60) hx hb hts (mc_ inX12) hown hK g rfl 19 (by decide) rfl (hts _ (List.mem_cons_of_mem _ t_1944)) (fun _ h9 => h9) 0 rfl dX14_goOver_204 ?_
                    refine lv_iload hx hb dX14_goOver_207 (lv_at hl 2 rfl) ?_
                    refine g_iald hx hb hK g ma_97 ka_97 (by decide) rfl (in_bd bx_96 (by decide)) dX14_goOver_209 (fun x_220 bx_220 cx_220 => ?_)
                    obtain rfl : x_98 = x_220 := el_same cx_98 cx_220 (arr_eq hMr_210 ma_97 ka_97 (by decide) rfl)
                    refine lv_iconst (v := 2) hx hb dX14_goOver_210 (by decide) ?_
                    have kb_2 : bd 2 2 (2 : Int32) := ⟨by decide, by decide⟩
                    refine lv_icmp_le (tgt := 224) hx hb dX14_goOver_211 (by decide) (fun c_221 => ?_) (fun c_221 => ?_)
                    · have fc_221 := le_f c_221
                      refine lv_iconst (v := 1) hx hb dX14_goOver_224 (by decide) ?_
                      refine lv_istore (lv' := [(9, .int 1), (8, .int 1), (7, .int r_210), (6, .int x_96), (5, .int v116_5), (4, .int k_), (3, .int r_), (0, .ref a0_), (1, .int x1_), (2, .int x2_)]) hx hb dX14_goOver_225 hl (by decide) rfl (fun ls hl => ?_)
                      refine lv_iconst (v := 0) hx hb dX14_goOver_227 (by decide) ?_
                      refine lv_istore (lv' := [(10, .int 0), (9, .int 1), (8, .int 1), (7, .int r_210), (6, .int x_96), (5, .int v116_5), (4, .int k_), (3, .int r_), (0, .ref a0_), (1, .int x1_), (2, .int x2_)]) hx hb dX14_goOver_228 hl (by decide) rfl (fun ls hl => ?_)
                      have loop_222 : ∀ (n : Nat) (v230_10 : Int32), bd 0 3 v230_10 → (3 - v230_10.toInt < (n : Int)) → ∀ (f : Nat → va_E) (H : Heap) (locs : List Loc) (ls : Array Slot), G3 (dC, dI) L kd tys s f0 [(14, 30), (14, 31), (14, 32), (14, 33), (14, 34), (14, 35), (14, 36), (14, 37), (14, 38), (14, 39), (14, 40), (14, 45), (14, 51), (14, 52), (14, 53), (14, 55), (14, 58), (14, 59), (14, 61), (14, 65), (14, 66)] [200, 215, 216, 217, 218, 219, 220, 221, 222, 223, 224, 225, 226, 227, 228, 229, 230, 231, 232] f H locs [(12, 19, q0_, .ref a_97), (12, 14, q0_, .ref a_91), (12, 15, q0_, .ref a_43), (14, 1, a0_, .ref q0_), (14, 51, a0_, .int r_), (14, 52, a0_, .int k_)] → isV f q0_ V_ → mOK f q0_ V_ → tOK f a0_ V_ → oOK f a0_ V_ → (∃ R : RW, isW f a0_ R ∧ rwOK V_ R r_ k_ ∧ pfx RW_ R r_ k_) → lv_has ls 15 [(10, .int v230_10), (9, .int 1), (8, .int 1), (7, .int r_210), (6, .int x_96), (5, .int v116_5), (4, .int k_), (3, .int r_), (0, .ref a0_), (1, .int x1_), (2, .int x2_)] → W p l e ({ frames := (N + 1) + 980, cells := 0, slots := 0, locals := 60 * (N + 1) + 39317 } : Room) s m [.ref a0_, .int x1_, .int x2_].toArray below meth c H locs 0 0 Q (F0 m 230 ls []) := by
                        intro n230
                        induction n230 with
                        | zero =>
                          intro v230_10 bv230_10 hm230 f H locs ls g hG230_V_q0_ hG230_m_q0_ hG230_t_a0_ hG230_o_a0_ ⟨R230, hW230, hI230, hp230⟩ hl
                          exact absurd hm230 (by have h9_v230_10 := bv230_10; unfold bd at h9_v230_10; omega)
                        | succ n230 ih230 =>
                          intro v230_10 bv230_10 hm230 f H locs ls g hG230_V_q0_ hG230_m_q0_ hG230_t_a0_ hG230_o_a0_ ⟨R230, hW230, hI230, hp230⟩ hl
                          refine lv_iload hx hb dX14_goOver_230 (lv_at hl 0 rfl) ?_
                          refine lv_iload hx hb dX14_goOver_232 (lv_at hl 6 rfl) ?_
                          refine lv_icmp_ge (tgt := 402) hx hb dX14_goOver_234 (by decide) (fun c_223 => ?_) (fun c_223 => ?_)
                          · have fc_223 := le_f c_223
                            obtain ⟨y_224, ey_224⟩ : ∃ z : Int32, z = v116_5 + 1 := ⟨_, rfl⟩
                            refine lv_iinc (v := y_224) (lv' := [(5, .int y_224), (10, .int v230_10), (9, .int 1), (8, .int 1), (7, .int r_210), (6, .int x_96), (4, .int k_), (3, .int r_), (0, .ref a0_), (1, .int x1_), (2, .int x2_)]) hx hb dX14_goOver_402 hl (k := 5) rfl (by rw [ey_224]; rfl) (by decide) rfl (fun ls hl => ?_)
                            have ty_224 := add_bd ey_224 b_89 kb_1 (by decide)
                            have b_225 : bd 1 12 y_224 := add_rg ty_224 b_89 kb_1 (by decide)
                            refine lv_goto (tgt := 116) hx hb dX14_goOver_405 (by decide) ?_
                            have hl9 := lv_sub hl [0, 6, 7, 8, 9, 10] (by rfl : lv_pick [(5, .int y_224), (10, .int v230_10), (9, .int 1), (8, .int 1), (7, .int r_210), (6, .int x_96), (4, .int k_), (3, .int r_), (0, .ref a0_), (1, .int x1_), (2, .int x2_)] [0, 6, 7, 8, 9, 10] = [(5, .int y_224), (4, .int k_), (3, .int r_), (0, .ref a0_), (1, .int x1_), (2, .int x2_)])
                            have g9 := g.sub (fx' := [(14, 1, a0_, .ref q0_), (14, 51, a0_, .int r_), (14, 52, a0_, .int k_)]) [3, 4, 5] rfl
                            exact ih116  y_224 (bd_sub b_225 (by decide)) (by have h9_0 := b_225; unfold bd at h9_0; have h9_1 := bv116_5; unfold bd at h9_1; have h9_2 := kb_0; unfold bd at h9_2; have h9_3 := kb_1; unfold bd at h9_3; have h9_4 := kb_2; unfold bd at h9_4; have h9_5 := kb_m1; unfold bd at h9_5; omega) _ _ _ _ g9 hG230_V_q0_ hG230_m_q0_ hG230_t_a0_ hG230_o_a0_ ⟨_, hW230, hI230, hp230⟩ hl9
                          · have fc_223 := nle_f c_223
                            have b_226 : bd 0 2 v230_10 := ltL fc_223 bv230_10 bk_ (by decide)
                            have b_227 : bd 1 3 k_ := ltR fc_223 bv230_10 bk_ (by decide)
                            refine lv_iconst (v := 0) hx hb dX14_goOver_237 (by decide) ?_
                            refine lv_istore (lv' := [(11, .int 0), (10, .int v230_10), (9, .int 1), (8, .int 1), (7, .int r_210), (6, .int x_96), (5, .int v116_5), (4, .int k_), (3, .int r_), (0, .ref a0_), (1, .int x1_), (2, .int x2_)]) hx hb dX14_goOver_238 hl (by decide) rfl (fun ls hl => ?_)
                            have loop_228 : ∀ (n : Nat) (v240_11 : Int32), bd 0 3 v240_11 → (3 - v240_11.toInt < (n : Int)) → ∀ (f : Nat → va_E) (H : Heap) (locs : List Loc) (ls : Array Slot), G3 (dC, dI) L kd tys s f0 [(14, 30), (14, 31), (14, 32), (14, 33), (14, 34), (14, 35), (14, 36), (14, 37), (14, 38), (14, 39), (14, 40), (14, 45), (14, 51), (14, 52), (14, 53), (14, 55), (14, 58), (14, 59), (14, 61), (14, 65), (14, 66)] [200, 215, 216, 217, 218, 219, 220, 221, 222, 223, 224, 225, 226, 227, 228, 229, 230, 231, 232] f H locs [(12, 19, q0_, .ref a_97), (12, 14, q0_, .ref a_91), (12, 15, q0_, .ref a_43), (14, 1, a0_, .ref q0_), (14, 51, a0_, .int r_), (14, 52, a0_, .int k_)] → isV f q0_ V_ → mOK f q0_ V_ → tOK f a0_ V_ → oOK f a0_ V_ → (∃ R : RW, isW f a0_ R ∧ rwOK V_ R r_ k_ ∧ pfx RW_ R r_ k_) → lv_has ls 15 [(11, .int v240_11), (10, .int v230_10), (9, .int 1), (8, .int 1), (7, .int r_210), (6, .int x_96), (5, .int v116_5), (4, .int k_), (3, .int r_), (0, .ref a0_), (1, .int x1_), (2, .int x2_)] → W p l e ({ frames := (N + 1) + 980, cells := 0, slots := 0, locals := 60 * (N + 1) + 39317 } : Room) s m [.ref a0_, .int x1_, .int x2_].toArray below meth c H locs 0 0 Q (F0 m 240 ls []) := by
                              intro n240
                              induction n240 with
                              | zero =>
                                intro v240_11 bv240_11 hm240 f H locs ls g hG240_V_q0_ hG240_m_q0_ hG240_t_a0_ hG240_o_a0_ ⟨R240, hW240, hI240, hp240⟩ hl
                                exact absurd hm240 (by have h9_v240_11 := bv240_11; unfold bd at h9_v240_11; omega)
                              | succ n240 ih240 =>
                                intro v240_11 bv240_11 hm240 f H locs ls g hG240_V_q0_ hG240_m_q0_ hG240_t_a0_ hG240_o_a0_ ⟨R240, hW240, hI240, hp240⟩ hl
                                refine lv_iload hx hb dX14_goOver_240 (lv_at hl 0 rfl) ?_
                                refine lv_iload hx hb dX14_goOver_242 (lv_at hl 4 rfl) ?_
                                refine lv_iload hx hb dX14_goOver_244 (lv_at hl 3 rfl) ?_
                                refine lv_imul hx hb dX14_goOver_246 ?_
                                refine lv_topi (fun y_229 ey_229 => ?_)
                                have ty_229 := mulc_bd ey_229 (c := 1) (by decide) h_211 (by decide)
                                have b_230 : bd 1 3 y_229 := mulc_rg ty_229 h_211 (by decide)
                                refine lv_iload hx hb dX14_goOver_247 (lv_at hl 2 rfl) ?_
                                refine lv_imul hx hb dX14_goOver_249 ?_
                                refine lv_topi (fun y_231 ey_231 => ?_)
                                have ty_231 := mulc_bd ey_231 (c := 1) (by decide) b_230 (by decide)
                                have b_232 : bd 1 3 y_231 := mulc_rg ty_231 b_230 (by decide)
                                refine lv_icmp_ge (tgt := 396) hx hb dX14_goOver_250 (by decide) (fun c_233 => ?_) (fun c_233 => ?_)
                                · have fc_233 := le_f c_233
                                  have b_234 : bd 1 3 v240_11 := leR fc_233 b_232 bv240_11 (by decide)
                                  obtain ⟨y_235, ey_235⟩ : ∃ z : Int32, z = v230_10 + 1 := ⟨_, rfl⟩
                                  refine lv_iinc (v := y_235) (lv' := [(10, .int y_235), (11, .int v240_11), (9, .int 1), (8, .int 1), (7, .int r_210), (6, .int x_96), (5, .int v116_5), (4, .int k_), (3, .int r_), (0, .ref a0_), (1, .int x1_), (2, .int x2_)]) hx hb dX14_goOver_396 hl (k := 1) rfl (by rw [ey_235]; rfl) (by decide) rfl (fun ls hl => ?_)
                                  have ty_235 := add_bd ey_235 b_226 kb_1 (by decide)
                                  have b_236 : bd 1 3 y_235 := add_rg ty_235 b_226 kb_1 (by decide)
                                  refine lv_goto (tgt := 230) hx hb dX14_goOver_399 (by decide) ?_
                                  have hl9 := lv_sub hl [0, 2, 3, 4, 5, 6, 7, 8, 9, 10, 11] (by rfl : lv_pick [(10, .int y_235), (11, .int v240_11), (9, .int 1), (8, .int 1), (7, .int r_210), (6, .int x_96), (5, .int v116_5), (4, .int k_), (3, .int r_), (0, .ref a0_), (1, .int x1_), (2, .int x2_)] [0, 2, 3, 4, 5, 6, 7, 8, 9, 10, 11] = [(10, .int y_235), (9, .int 1), (8, .int 1), (7, .int r_210), (6, .int x_96), (5, .int v116_5), (4, .int k_), (3, .int r_), (0, .ref a0_), (1, .int x1_), (2, .int x2_)])
                                  have g9 := g.sub (fx' := [(12, 19, q0_, .ref a_97), (12, 14, q0_, .ref a_91), (12, 15, q0_, .ref a_43), (14, 1, a0_, .ref q0_), (14, 51, a0_, .int r_), (14, 52, a0_, .int k_)]) [0, 1, 2, 3, 4, 5] rfl
                                  exact ih230  y_235 (bd_sub b_236 (by decide)) (by have h9_0 := b_236; unfold bd at h9_0; have h9_1 := bv230_10; unfold bd at h9_1; have h9_2 := kb_0; unfold bd at h9_2; have h9_3 := kb_1; unfold bd at h9_3; have h9_4 := kb_2; unfold bd at h9_4; have h9_5 := kb_m1; unfold bd at h9_5; omega) _ _ _ _ g9 hG240_V_q0_ hG240_m_q0_ hG240_t_a0_ hG240_o_a0_ ⟨_, hW240, hI240, hp240⟩ hl9
                                · have fc_233 := nle_f c_233
                                  have b_237 : bd 0 2 v240_11 := ltL fc_233 bv240_11 b_232 (by decide)
                                  have join_238 : ∀ (j354_14 : Int32) (j354_13 : Int32) (j354_12 : Int32) (f : Nat → va_E) (H : Heap) (locs : List Loc) (ls : Array Slot), G3 (dC, dI) L kd tys s f0 [(14, 30), (14, 31), (14, 32), (14, 33), (14, 34), (14, 35), (14, 36), (14, 37), (14, 38), (14, 39), (14, 40), (14, 45), (14, 51), (14, 52), (14, 53), (14, 55), (14, 58), (14, 59), (14, 61), (14, 65), (14, 66)] [200, 215, 216, 217, 218, 219, 220, 221, 222, 223, 224, 225, 226, 227, 228, 229, 230, 231, 232] f H locs [(12, 19, q0_, .ref a_97), (12, 14, q0_, .ref a_91), (12, 15, q0_, .ref a_43), (14, 1, a0_, .ref q0_), (14, 51, a0_, .int r_), (14, 52, a0_, .int k_)] → isV f q0_ V_ → mOK f q0_ V_ → tOK f a0_ V_ → oOK f a0_ V_ → isW f a0_ R240 → lv_has ls 15 [(14, .int j354_14), (13, .int j354_13), (12, .int j354_12), (11, .int v240_11), (10, .int v230_10), (9, .int 1), (8, .int 1), (7, .int r_210), (6, .int x_96), (5, .int v116_5), (4, .int k_), (3, .int r_), (0, .ref a0_), (1, .int x1_), (2, .int x2_)] → W p l e ({ frames := (N + 1) + 980, cells := 0, slots := 0, locals := 60 * (N + 1) + 39317 } : Room) s m [.ref a0_, .int x1_, .int x2_].toArray below meth c H locs 0 0 Q (F0 m 354 ls []) := by
                                    intro j354_14 j354_13 j354_12 f H locs ls    g hJ354_V_q0_ hJ354_m_q0_ hJ354_t_a0_ hJ354_o_a0_ hJ354_W_a0_ hl
                                    refine lv_aload_n hx hb dX14_goOver_354 rfl (lv_at hl 12 rfl) ?_
                                    refine lv_iload hx hb dX14_goOver_355 (lv_at hl 4 rfl) ?_
                                    refine lv_iload hx hb dX14_goOver_357 (lv_at hl 9 rfl) ?_
                                    refine lv_iload hx hb dX14_goOver_359 (lv_at hl 2 rfl) ?_
                                    refine lv_iload hx hb dX14_goOver_361 (lv_at hl 1 rfl) ?_
                                    refine lv_iload hx hb dX14_goOver_363 (lv_at hl 0 rfl) ?_
                                    have go_ := g
                                    refine g_callv (va_runV (As := [.int v230_10, .int v116_5, .int j354_12, .int j354_13, .int j354_14]) (rest := []) ⟨hx, hb, hml, hown, hts⟩ (r_X14_addCall l dC dI L kd tys f H.size g.2.2.2.1 a0_ ma0_ ka0_ v230_10 b_226 v116_5 b_89 j354_12 j354_13 j354_14 q0_ mq0_ kq0_ r_ (bd_sub b_32 (by decide)) k_ (bd_sub b_227 (by decide)) V_ δ_ hW R240 hJ354_W_a0_ hJ354_V_q0_ hI240 fc_223 (by rw [(hall.pf hp240) v230_10.toNatClampNeg (by rw [tnZ b_226.1]; exact fc_223), ← vx_44]; exact fc_45) (g.fcts [3, 4, 5] rfl)) (cwV 5 hts (gV_ t_2606 t_2608 t_140 t_198 t_2609) rfl rfl rfl (by decide +kernel) ⟨(show 0 + 1 ≤ N + 1 + 980 by omega), (show 8 + (6 + 11) + 0 ≤ 60 * (N + 1) + 39317 by omega)⟩) (pre3V g hK ma0_ ka0_ (by decide) (q := (RX14, TX14, 67)) rfl) rfl rfl hl.1 rfl (lv_room (Nat.le_of_ble_eq_true rfl)) dX14_goOver_365 ⟨(Nat.le_of_ble_eq_true rfl), (Nat.le_of_ble_eq_true rfl)⟩) g hK (by decide) (by decide) (fx' := [(12, 19, q0_, .ref a_97), (12, 14, q0_, .ref a_91), (12, 15, q0_, .ref a_43), (14, 1, a0_, .ref q0_), (14, 52, a0_, .int k_)]) rfl (fun fr_239 H locs hp hMr_239 g => ?_)
                                    obtain ⟨hx_240, hx_241, x_242, ⟨h_243, rh_243⟩, hF_244⟩ := hp
                                    have hG_245 := isV.frame hMr_239 go_.2.2.2.1 mq0_ kq0_ (by decide) (by decide) hJ354_V_q0_
                                    have hG_246 := mOK.frame hMr_239 go_.2.2.2.1 mq0_ kq0_ (by decide) (by decide) hJ354_m_q0_
                                    have hG_247 := tOK.frame hMr_239 go_.2.2.2.1 ma0_ ka0_ (by decide) (by decide) hJ354_t_a0_
                                    have hG_248 := oOK.frame hMr_239 go_.2.2.2.1 ma0_ ka0_ (by decide) (by decide) hJ354_o_a0_
                                    have g := g.more hF_244
                                    refine lv_aload_n hx hb dX14_goOver_368 rfl (lv_at hl 12 rfl) ?_
                                    refine lv_iload_n hx hb dX14_goOver_369 rfl (lv_at hl 13 rfl) ?_
                                    refine lv_iload_n hx hb dX14_goOver_370 rfl (lv_at hl 14 rfl) ?_
                                    have b_249 : bd 0 4 x_242 := ⟨(by have h9_0 := b_227; unfold bd at h9_0; have h9_1 := b_32; unfold bd at h9_1; have h9_2 := h_211; unfold bd at h9_2; have h9_3 := b_89; unfold bd at h9_3; have h9_4 := b_226; unfold bd at h9_4; have h9_5 := b_237; unfold bd at h9_5; have h9_6 := bx1_; unfold bd at h9_6; have h9_7 := bx2_; unfold bd at h9_7; have h9_8 := bx_217; unfold bd at h9_8; have h9_9 := bx_220; unfold bd at h9_9; have h9_10 := h_243; unfold bd at h9_10; have h9_11 := b_90; unfold bd at h9_11; have h9_12 := bx_96; unfold bd at h9_12; have h9_13 := b_219; unfold bd at h9_13; have h9_14 := b_230; unfold bd at h9_14; have h9_15 := b_232; unfold bd at h9_15; have h9_16 := b_93; unfold bd at h9_16; have h9_17 := b_95; unfold bd at h9_17; have h8_0 := kb_0; unfold bd at h8_0; have h8_1 := kb_1; unfold bd at h8_1; have h8_2 := kb_2; unfold bd at h8_2; have h8_3 := kb_m1; unfold bd at h8_3; omega), (by have h9_0 := b_227; unfold bd at h9_0; have h9_1 := b_32; unfold bd at h9_1; have h9_2 := h_211; unfold bd at h9_2; have h9_3 := b_89; unfold bd at h9_3; have h9_4 := b_226; unfold bd at h9_4; have h9_5 := b_237; unfold bd at h9_5; have h9_6 := bx1_; unfold bd at h9_6; have h9_7 := bx2_; unfold bd at h9_7; have h9_8 := bx_217; unfold bd at h9_8; have h9_9 := bx_220; unfold bd at h9_9; have h9_10 := h_243; unfold bd at h9_10; have h9_11 := b_90; unfold bd at h9_11; have h9_12 := bx_96; unfold bd at h9_12; have h9_13 := b_219; unfold bd at h9_13; have h9_14 := b_230; unfold bd at h9_14; have h9_15 := b_232; unfold bd at h9_15; have h9_16 := b_93; unfold bd at h9_16; have h9_17 := b_95; unfold bd at h9_17; have h8_0 := kb_0; unfold bd at h8_0; have h8_1 := kb_1; unfold bd at h8_1; have h8_2 := kb_2; unfold bd at h8_2; have h8_3 := kb_m1; unfold bd at h8_3; omega)⟩
                                    have go_ := g
                                    refine g_calli (va_runV (As := [.int x1_, .int x2_]) (rest := []) ⟨hx, hb, hml, hown, hts⟩ (ih l dC dI L kd tys fr_239 H.size g.2.2.2.1 adK adV a0_ ma0_ ka0_ x1_ bx1_ x2_ bx2_ q0_ mq0_ kq0_ x_242 b_249 k_ (bd_sub b_227 (by decide)) V_ δ_ hW (R240.adC r_ v230_10 v116_5 j354_12 j354_13 j354_14) hG_245 hx_240 hG_246 hG_248 hG_247 (hx_241.1 _ _ (by have h9_0 := b_227; unfold bd at h9_0; have h9_1 := b_32; unfold bd at h9_1; have h9_2 := h_211; unfold bd at h9_2; have h9_3 := b_89; unfold bd at h9_3; have h9_4 := b_226; unfold bd at h9_4; have h9_5 := b_237; unfold bd at h9_5; have h9_6 := bx1_; unfold bd at h9_6; have h9_7 := bx2_; unfold bd at h9_7; have h9_8 := bx_217; unfold bd at h9_8; have h9_9 := bx_220; unfold bd at h9_9; have h9_10 := b_249; unfold bd at h9_10; have h9_11 := b_90; unfold bd at h9_11; have h9_12 := bx_96; unfold bd at h9_12; have h9_13 := b_219; unfold bd at h9_13; have h9_14 := b_230; unfold bd at h9_14; have h9_15 := b_232; unfold bd at h9_15; have h9_16 := b_93; unfold bd at h9_16; have h9_17 := b_95; unfold bd at h9_17; have h8_0 := kb_0; unfold bd at h8_0; have h8_1 := kb_1; unfold bd at h8_1; have h8_2 := kb_2; unfold bd at h8_2; have h8_3 := kb_m1; unfold bd at h8_3; omega) (by have h9_0 := b_227; unfold bd at h9_0; have h9_1 := b_32; unfold bd at h9_1; have h9_2 := h_211; unfold bd at h9_2; have h9_3 := b_89; unfold bd at h9_3; have h9_4 := b_226; unfold bd at h9_4; have h9_5 := b_237; unfold bd at h9_5; have h9_6 := bx1_; unfold bd at h9_6; have h9_7 := bx2_; unfold bd at h9_7; have h9_8 := bx_217; unfold bd at h9_8; have h9_9 := bx_220; unfold bd at h9_9; have h9_10 := b_249; unfold bd at h9_10; have h9_11 := b_90; unfold bd at h9_11; have h9_12 := bx_96; unfold bd at h9_12; have h9_13 := b_219; unfold bd at h9_13; have h9_14 := b_230; unfold bd at h9_14; have h9_15 := b_232; unfold bd at h9_15; have h9_16 := b_93; unfold bd at h9_16; have h9_17 := b_95; unfold bd at h9_17; have h8_0 := kb_0; unfold bd at h8_0; have h8_1 := kb_1; unfold bd at h8_1; have h8_2 := kb_2; unfold bd at h8_2; have h8_3 := kb_m1; unfold bd at h8_3; omega)) ((hall.pf hp240).ad hx_241 (Or.inl rfl) (by have h9_0 := b_227; unfold bd at h9_0; have h9_1 := b_32; unfold bd at h9_1; have h9_2 := h_211; unfold bd at h9_2; have h9_3 := b_89; unfold bd at h9_3; have h9_4 := b_226; unfold bd at h9_4; have h9_5 := b_237; unfold bd at h9_5; have h9_6 := bx1_; unfold bd at h9_6; have h9_7 := bx2_; unfold bd at h9_7; have h9_8 := bx_217; unfold bd at h9_8; have h9_9 := bx_220; unfold bd at h9_9; have h9_10 := b_249; unfold bd at h9_10; have h9_11 := b_90; unfold bd at h9_11; have h9_12 := bx_96; unfold bd at h9_12; have h9_13 := b_219; unfold bd at h9_13; have h9_14 := b_230; unfold bd at h9_14; have h9_15 := b_232; unfold bd at h9_15; have h9_16 := b_93; unfold bd at h9_16; have h9_17 := b_95; unfold bd at h9_17; have h8_0 := kb_0; unfold bd at h8_0; have h8_1 := kb_1; unfold bd at h8_1; have h8_2 := kb_2; unfold bd at h8_2; have h8_3 := kb_m1; unfold bd at h8_3; omega) (by have h9_0 := b_227; unfold bd at h9_0; have h9_1 := b_32; unfold bd at h9_1; have h9_2 := h_211; unfold bd at h9_2; have h9_3 := b_89; unfold bd at h9_3; have h9_4 := b_226; unfold bd at h9_4; have h9_5 := b_237; unfold bd at h9_5; have h9_6 := bx1_; unfold bd at h9_6; have h9_7 := bx2_; unfold bd at h9_7; have h9_8 := bx_217; unfold bd at h9_8; have h9_9 := bx_220; unfold bd at h9_9; have h9_10 := b_249; unfold bd at h9_10; have h9_11 := b_90; unfold bd at h9_11; have h9_12 := bx_96; unfold bd at h9_12; have h9_13 := b_219; unfold bd at h9_13; have h9_14 := b_230; unfold bd at h9_14; have h9_15 := b_232; unfold bd at h9_15; have h9_16 := b_93; unfold bd at h9_16; have h9_17 := b_95; unfold bd at h9_17; have h8_0 := kb_0; unfold bd at h8_0; have h8_1 := kb_1; unfold bd at h8_1; have h8_2 := kb_2; unfold bd at h8_2; have h8_3 := kb_m1; unfold bd at h8_3; omega)) hcl (by have h9_0 := b_227; unfold bd at h9_0; have h9_1 := b_32; unfold bd at h9_1; have h9_2 := h_211; unfold bd at h9_2; have h9_3 := b_89; unfold bd at h9_3; have h9_4 := b_226; unfold bd at h9_4; have h9_5 := b_237; unfold bd at h9_5; have h9_6 := bx1_; unfold bd at h9_6; have h9_7 := bx2_; unfold bd at h9_7; have h9_8 := bx_217; unfold bd at h9_8; have h9_9 := bx_220; unfold bd at h9_9; have h9_10 := b_249; unfold bd at h9_10; have h9_11 := b_90; unfold bd at h9_11; have h9_12 := bx_96; unfold bd at h9_12; have h9_13 := b_219; unfold bd at h9_13; have h9_14 := b_230; unfold bd at h9_14; have h9_15 := b_232; unfold bd at h9_15; have h9_16 := b_93; unfold bd at h9_16; have h9_17 := b_95; unfold bd at h9_17; have h8_0 := kb_0; unfold bd at h8_0; have h8_1 := kb_1; unfold bd at h8_1; have h8_2 := kb_2; unfold bd at h8_2; have h8_3 := kb_m1; unfold bd at h8_3; omega) (by have h9_0 := b_227; unfold bd at h9_0; have h9_1 := b_32; unfold bd at h9_1; have h9_2 := h_211; unfold bd at h9_2; have h9_3 := b_89; unfold bd at h9_3; have h9_4 := b_226; unfold bd at h9_4; have h9_5 := b_237; unfold bd at h9_5; have h9_6 := bx1_; unfold bd at h9_6; have h9_7 := bx2_; unfold bd at h9_7; have h9_8 := bx_217; unfold bd at h9_8; have h9_9 := bx_220; unfold bd at h9_9; have h9_10 := b_249; unfold bd at h9_10; have h9_11 := b_90; unfold bd at h9_11; have h9_12 := bx_96; unfold bd at h9_12; have h9_13 := b_219; unfold bd at h9_13; have h9_14 := b_230; unfold bd at h9_14; have h9_15 := b_232; unfold bd at h9_15; have h9_16 := b_93; unfold bd at h9_16; have h9_17 := b_95; unfold bd at h9_17; have h8_0 := kb_0; unfold bd at h8_0; have h8_1 := kb_1; unfold bd at h8_1; have h8_2 := kb_2; unfold bd at h8_2; have h8_3 := kb_m1; unfold bd at h8_3; omega) (g.fcts [4, 0, 5] rfl)) (cwV 2 hts (gV_ t_2752 t_2754 t_172 t_198 t_2755) rfl rfl rfl (by decide +kernel) ⟨(show N + 980 + 1 ≤ N + 1 + 980 by omega), (show 8 + (15 + 11) + (60 * N + 39317) ≤ 60 * (N + 1) + 39317 by omega)⟩) (pre3VA g hK hAm ma0_ ka0_ (by decide) (q := (RX14, TX14, 67)) rfl) rfl rfl hl.1 rfl (lv_room (Nat.le_of_ble_eq_true rfl)) dX14_goOver_371 ⟨(Nat.le_of_ble_eq_true rfl), (Nat.le_of_ble_eq_true rfl)⟩) g hK (by decide) (by decide) (fx' := [(12, 19, q0_, .ref a_97), (12, 14, q0_, .ref a_91), (12, 15, q0_, .ref a_43), (14, 1, a0_, .ref q0_)]) rfl (fun r_250 fr_250 H locs hp hMr_250 g => ?_)
                                    obtain ⟨hG_251, hG_252, hx_253, h_254, -⟩ := hp
                                    have hG_255 := isV.frame hMr_250 go_.2.2.2.1 mq0_ kq0_ (by decide) (by decide) hG_245
                                    have hG_256 := mOK.frame hMr_250 go_.2.2.2.1 mq0_ kq0_ (by decide) (by decide) hG_246
                                    obtain ⟨R_257, hR_258, hp_259, hr_260⟩ := hx_253
                                    have hpf_261 := ((hp240.tr hx_241.2 (Int.le_refl _) (Int.le_refl _)).tr hp_259 (by have h9_0 := b_227; unfold bd at h9_0; have h9_1 := b_32; unfold bd at h9_1; have h9_2 := h_211; unfold bd at h9_2; have h9_3 := h_254; unfold bd at h9_3; have h9_4 := b_89; unfold bd at h9_4; have h9_5 := b_226; unfold bd at h9_5; have h9_6 := b_237; unfold bd at h9_6; have h9_7 := bx1_; unfold bd at h9_7; have h9_8 := bx2_; unfold bd at h9_8; have h9_9 := bx_217; unfold bd at h9_9; have h9_10 := bx_220; unfold bd at h9_10; have h9_11 := b_249; unfold bd at h9_11; have h9_12 := b_90; unfold bd at h9_12; have h9_13 := bx_96; unfold bd at h9_13; have h9_14 := b_219; unfold bd at h9_14; have h9_15 := b_230; unfold bd at h9_15; have h9_16 := b_232; unfold bd at h9_16; have h9_17 := b_93; unfold bd at h9_17; have h9_18 := b_95; unfold bd at h9_18; have h8_0 := kb_0; unfold bd at h8_0; have h8_1 := kb_1; unfold bd at h8_1; have h8_2 := kb_2; unfold bd at h8_2; have h8_3 := kb_m1; unfold bd at h8_3; omega) (by have h9_0 := b_227; unfold bd at h9_0; have h9_1 := b_32; unfold bd at h9_1; have h9_2 := h_211; unfold bd at h9_2; have h9_3 := h_254; unfold bd at h9_3; have h9_4 := b_89; unfold bd at h9_4; have h9_5 := b_226; unfold bd at h9_5; have h9_6 := b_237; unfold bd at h9_6; have h9_7 := bx1_; unfold bd at h9_7; have h9_8 := bx2_; unfold bd at h9_8; have h9_9 := bx_217; unfold bd at h9_9; have h9_10 := bx_220; unfold bd at h9_10; have h9_11 := b_249; unfold bd at h9_11; have h9_12 := b_90; unfold bd at h9_12; have h9_13 := bx_96; unfold bd at h9_13; have h9_14 := b_219; unfold bd at h9_14; have h9_15 := b_230; unfold bd at h9_15; have h9_16 := b_232; unfold bd at h9_16; have h9_17 := b_93; unfold bd at h9_17; have h9_18 := b_95; unfold bd at h9_18; have h8_0 := kb_0; unfold bd at h8_0; have h8_1 := kb_1; unfold bd at h8_1; have h8_2 := kb_2; unfold bd at h8_2; have h8_3 := kb_m1; unfold bd at h8_3; omega))
                                    refine lv_if_eq (tgt := 379) hx hb dX14_goOver_374 (by decide) (fun c_262 => ?_) (fun c_262 => ?_)
                                    · have fc_262 := eq_f c_262
                                      have b_263 : bd 0 0 r_250 := eqX fc_262 h_254 kb_0 (by decide)
                                      refine lv_aload_n hx hb dX14_goOver_379 rfl (lv_at hl 12 rfl) ?_
                                      refine lv_iload_n hx hb dX14_goOver_380 rfl (lv_at hl 11 rfl) ?_
                                      have go_ := g
                                      refine g_put (C := RX14) (T := TX14) (N := 67) hx hb hts (mc_ inX14) tyX14 tyX14_ok nmX14 hown hK g ma0_ ka0_ (by decide) rfl 51 (by decide) (hts _ (List.mem_cons_of_mem _ t_2197)) (fun _ h9 => h9) rfl rfl (okV_i (bd_sub b_32 (by decide))) rfl rfl (by decide) (Or.inr (Or.inl (by decide))) (fx' := [(12, 19, q0_, .ref a_97), (12, 14, q0_, .ref a_91), (12, 15, q0_, .ref a_43), (14, 1, a0_, .ref q0_)]) rfl dX14_goOver_381 (fun f H locs hM_264 g => ?_)
                                      have hG_265 := isV.frame hM_264 go_.2.2.2.1 mq0_ kq0_ (by decide) (by decide) hG_255
                                      have hG_266 := mOK.frame hM_264 go_.2.2.2.1 mq0_ kq0_ (by decide) (by decide) hG_256
                                      have hG_267 := tOK.frame hM_264 go_.2.2.2.1 ma0_ ka0_ (by decide) (by decide) hG_252
                                      have hG_268 := oOK.frame hM_264 go_.2.2.2.1 ma0_ ka0_ (by decide) (by decide) hG_251
                                      have hG_269 := isW.frame hM_264 go_.2.2.2.1 ma0_ ka0_ (by decide) (by decide) hR_258
                                      refine lv_aload_n hx hb dX14_goOver_384 rfl (lv_at hl 12 rfl) ?_
                                      refine lv_iload hx hb dX14_goOver_385 (lv_at hl 10 rfl) ?_
                                      have go_ := g
                                      refine g_put (C := RX14) (T := TX14) (N := 67) hx hb hts (mc_ inX14) tyX14 tyX14_ok nmX14 hown hK g ma0_ ka0_ (by decide) rfl 52 (by decide) (hts _ (List.mem_cons_of_mem _ t_2198)) (fun _ h9 => h9) rfl rfl (okV_i (bd_sub b_227 (by decide))) rfl rfl (by decide) (Or.inr (Or.inl (by decide))) (fx' := [(14, 51, a0_, .int r_), (12, 19, q0_, .ref a_97), (12, 14, q0_, .ref a_91), (12, 15, q0_, .ref a_43), (14, 1, a0_, .ref q0_)]) rfl dX14_goOver_387 (fun f H locs hM_270 g => ?_)
                                      have hG_271 := isV.frame hM_270 go_.2.2.2.1 mq0_ kq0_ (by decide) (by decide) hG_265
                                      have hG_272 := mOK.frame hM_270 go_.2.2.2.1 mq0_ kq0_ (by decide) (by decide) hG_266
                                      have hG_273 := tOK.frame hM_270 go_.2.2.2.1 ma0_ ka0_ (by decide) (by decide) hG_267
                                      have hG_274 := oOK.frame hM_270 go_.2.2.2.1 ma0_ ka0_ (by decide) (by decide) hG_268
                                      have hG_275 := isW.frame hM_270 go_.2.2.2.1 ma0_ ka0_ (by decide) (by decide) hG_269
                                      obtain ⟨y_276, ey_276⟩ : ∃ z : Int32, z = v240_11 + 1 := ⟨_, rfl⟩
                                      refine lv_iinc (v := y_276) (lv' := [(11, .int y_276), (14, .int j354_14), (13, .int j354_13), (12, .int j354_12), (10, .int v230_10), (9, .int 1), (8, .int 1), (7, .int r_210), (6, .int x_96), (5, .int v116_5), (4, .int k_), (3, .int r_), (0, .ref a0_), (1, .int x1_), (2, .int x2_)]) hx hb dX14_goOver_390 hl (k := 3) rfl (by rw [ey_276]; rfl) (by decide) rfl (fun ls hl => ?_)
                                      have ty_276 := add_bd ey_276 b_237 kb_1 (by decide)
                                      have b_277 : bd 1 3 y_276 := add_rg ty_276 b_237 kb_1 (by decide)
                                      refine lv_goto (tgt := 240) hx hb dX14_goOver_393 (by decide) ?_
                                      have hl9 := lv_sub hl [0, 4, 5, 6, 7, 8, 9, 10, 11, 12, 13, 14] (by rfl : lv_pick [(11, .int y_276), (14, .int j354_14), (13, .int j354_13), (12, .int j354_12), (10, .int v230_10), (9, .int 1), (8, .int 1), (7, .int r_210), (6, .int x_96), (5, .int v116_5), (4, .int k_), (3, .int r_), (0, .ref a0_), (1, .int x1_), (2, .int x2_)] [0, 4, 5, 6, 7, 8, 9, 10, 11, 12, 13, 14] = [(11, .int y_276), (10, .int v230_10), (9, .int 1), (8, .int 1), (7, .int r_210), (6, .int x_96), (5, .int v116_5), (4, .int k_), (3, .int r_), (0, .ref a0_), (1, .int x1_), (2, .int x2_)])
                                      have g9 := g.sub (fx' := [(12, 19, q0_, .ref a_97), (12, 14, q0_, .ref a_91), (12, 15, q0_, .ref a_43), (14, 1, a0_, .ref q0_), (14, 51, a0_, .int r_), (14, 52, a0_, .int k_)]) [2, 3, 4, 5, 1, 0] rfl
                                      exact ih240  y_276 (bd_sub b_277 (by decide)) (by have h9_0 := b_277; unfold bd at h9_0; have h9_1 := bv240_11; unfold bd at h9_1; have h9_2 := kb_0; unfold bd at h9_2; have h9_3 := kb_1; unfold bd at h9_3; have h9_4 := kb_2; unfold bd at h9_4; have h9_5 := kb_m1; unfold bd at h9_5; omega) _ _ _ _ g9 hG_271 hG_272 hG_273 hG_274 ⟨_, hG_275, (hrw.keep br_.1 hpf_261), hpf_261⟩ hl9
                                    · have fc_262 := neq_f c_262
                                      have b_278 : bd 1 1 r_250 := neX fc_262 h_254 kb_0 (by decide)
                                      refine lv_iconst (v := 1) hx hb dX14_goOver_377 (by decide) ?_
                                      subst hQ
                                      exact W.zret (v := 1) hx hb hr (nar_z (bd_sub kb_1 (by decide) : bd 0 1 _).1 (bd_sub kb_1 (by decide) : bd 0 1 _).2) (fun t ht hW => ⟨⟨_, _, rfl, ⟨hG_251, hG_252, ⟨_, hR_258, hpf_261, hr_260⟩, (bd_sub kb_1 (by decide)), trivial⟩, q3_of g hK ht hW⟩, g.2.2.1.F ht⟩) g.2.2.1.2.2 dX14_goOver_378
                                  refine lv_aload_n hx hb dX14_goOver_253 rfl (lv_at hl 9 rfl) ?_
                                  refine g_getk (C := RX14) (T := TX14) (N := 67) hx hb hts (mc_ inX14) hown hK g rfl 1 (by decide) rfl (hts _ (List.mem_cons_of_mem _ t_2147)) (fun _ h9 => h9) 3 rfl dX14_goOver_254 ?_
                                  refine g_getk (C := RX12) (T := TX12) (N := 60) hx hb hts (mc_ inX12) hown hK g rfl 19 (by decide) rfl (hts _ (List.mem_cons_of_mem _ t_1944)) (fun _ h9 => h9) 0 rfl dX14_goOver_257 ?_
                                  refine lv_iload hx hb dX14_goOver_260 (lv_at hl 5 rfl) ?_
                                  refine g_iald hx hb hK g ma_97 ka_97 (by decide) rfl (in_bd bx_96 (by decide)) dX14_goOver_262 (fun x_279 bx_279 cx_279 => ?_)
                                  have vx_279 : x_279 = V_.i 19 x_96.toNatClampNeg := hG240_V_q0_.at g 0 rfl rfl cx_279
                                  refine lv_if_le (tgt := 284) hx hb dX14_goOver_263 (by decide) (fun c_280 => ?_) (fun c_280 => ?_)
                                  · have fc_280 := le_f c_280
                                    have b_281 : bd 0 0 x_279 := leL fc_280 bx_279 kb_0 (by decide)
                                    refine lv_iconst (v := 0) hx hb dX14_goOver_284 (by decide) ?_
                                    refine lv_istore (lv' := [(12, .int 0), (11, .int v240_11), (10, .int v230_10), (9, .int 1), (8, .int 1), (7, .int r_210), (6, .int x_96), (5, .int v116_5), (4, .int k_), (3, .int r_), (0, .ref a0_), (1, .int x1_), (2, .int x2_)]) hx hb dX14_goOver_285 hl (by decide) rfl (fun ls hl => ?_)
                                    refine lv_aload_n hx hb dX14_goOver_287 rfl (lv_at hl 10 rfl) ?_
                                    refine g_getk (C := RX14) (T := TX14) (N := 67) hx hb hts (mc_ inX14) hown hK g rfl 1 (by decide) rfl (hts _ (List.mem_cons_of_mem _ t_2147)) (fun _ h9 => h9) 3 rfl dX14_goOver_288 ?_
                                    refine g_getk (C := RX12) (T := TX12) (N := 60) hx hb hts (mc_ inX12) hown hK g rfl 19 (by decide) rfl (hts _ (List.mem_cons_of_mem _ t_1944)) (fun _ h9 => h9) 0 rfl dX14_goOver_291 ?_
                                    refine lv_iload hx hb dX14_goOver_294 (lv_at hl 6 rfl) ?_
                                    refine g_iald hx hb hK g ma_97 ka_97 (by decide) rfl (in_bd bx_96 (by decide)) dX14_goOver_296 (fun x_282 bx_282 cx_282 => ?_)
                                    obtain rfl : x_279 = x_282 := el_same cx_279 cx_282 rfl
                                    refine lv_iconst (v := 1) hx hb dX14_goOver_297 (by decide) ?_
                                    refine lv_icmp_le (tgt := 319) hx hb dX14_goOver_298 (by decide) (fun c_283 => ?_) (fun c_283 => ?_)
                                    · have fc_283 := le_f c_283
                                      refine lv_iconst (v := 0) hx hb dX14_goOver_319 (by decide) ?_
                                      refine lv_istore (lv' := [(13, .int 0), (12, .int 0), (11, .int v240_11), (10, .int v230_10), (9, .int 1), (8, .int 1), (7, .int r_210), (6, .int x_96), (5, .int v116_5), (4, .int k_), (3, .int r_), (0, .ref a0_), (1, .int x1_), (2, .int x2_)]) hx hb dX14_goOver_320 hl (by decide) rfl (fun ls hl => ?_)
                                      refine lv_aload_n hx hb dX14_goOver_322 rfl (lv_at hl 11 rfl) ?_
                                      refine g_getk (C := RX14) (T := TX14) (N := 67) hx hb hts (mc_ inX14) hown hK g rfl 1 (by decide) rfl (hts _ (List.mem_cons_of_mem _ t_2147)) (fun _ h9 => h9) 3 rfl dX14_goOver_323 ?_
                                      refine g_getk (C := RX12) (T := TX12) (N := 60) hx hb hts (mc_ inX12) hown hK g rfl 19 (by decide) rfl (hts _ (List.mem_cons_of_mem _ t_1944)) (fun _ h9 => h9) 0 rfl dX14_goOver_326 ?_
                                      refine lv_iload hx hb dX14_goOver_329 (lv_at hl 7 rfl) ?_
                                      refine g_iald hx hb hK g ma_97 ka_97 (by decide) rfl (in_bd bx_96 (by decide)) dX14_goOver_331 (fun x_284 bx_284 cx_284 => ?_)
                                      obtain rfl : x_279 = x_284 := el_same cx_279 cx_284 rfl
                                      refine lv_iconst (v := 2) hx hb dX14_goOver_332 (by decide) ?_
                                      refine lv_icmp_le (tgt := 351) hx hb dX14_goOver_333 (by decide) (fun c_285 => ?_) (fun c_285 => ?_)
                                      · have fc_285 := le_f c_285
                                        refine lv_iconst (v := 0) hx hb dX14_goOver_351 (by decide) ?_
                                        refine lv_istore (lv' := [(14, .int 0), (13, .int 0), (12, .int 0), (11, .int v240_11), (10, .int v230_10), (9, .int 1), (8, .int 1), (7, .int r_210), (6, .int x_96), (5, .int v116_5), (4, .int k_), (3, .int r_), (0, .ref a0_), (1, .int x1_), (2, .int x2_)]) hx hb dX14_goOver_352 hl (by decide) rfl (fun ls hl => ?_)
                                        have hl9 := lv_sub hl [0, 1, 2, 3, 4, 5, 6, 7, 8, 9, 10, 11, 12, 13, 14] (by rfl : lv_pick [(14, .int 0), (13, .int 0), (12, .int 0), (11, .int v240_11), (10, .int v230_10), (9, .int 1), (8, .int 1), (7, .int r_210), (6, .int x_96), (5, .int v116_5), (4, .int k_), (3, .int r_), (0, .ref a0_), (1, .int x1_), (2, .int x2_)] [0, 1, 2, 3, 4, 5, 6, 7, 8, 9, 10, 11, 12, 13, 14] = [(14, .int 0), (13, .int 0), (12, .int 0), (11, .int v240_11), (10, .int v230_10), (9, .int 1), (8, .int 1), (7, .int r_210), (6, .int x_96), (5, .int v116_5), (4, .int k_), (3, .int r_), (0, .ref a0_), (1, .int x1_), (2, .int x2_)])
                                        have g9 := g.sub (fx' := [(12, 19, q0_, .ref a_97), (12, 14, q0_, .ref a_91), (12, 15, q0_, .ref a_43), (14, 1, a0_, .ref q0_), (14, 51, a0_, .int r_), (14, 52, a0_, .int k_)]) [0, 1, 2, 3, 4, 5] rfl
                                        exact join_238 0 0 0 _ _ _ _  g9 hG240_V_q0_ hG240_m_q0_ hG240_t_a0_ hG240_o_a0_ hW240 hl9
                                      · have fc_285 := nle_f c_285
                                        have b_286 : bd 2 (-1) (2 : Int32) := ltL fc_285 kb_2 b_281 (by decide)
                                        exact bd_no (eqX rfl b_286 kb_2 (lo := 2) (hi := (-1)) (by decide)) (by decide)
                                    · have fc_283 := nle_f c_283
                                      have b_287 : bd 1 (-1) (1 : Int32) := ltL fc_283 kb_1 b_281 (by decide)
                                      exact bd_no (eqX rfl b_287 kb_1 (lo := 1) (hi := (-1)) (by decide)) (by decide)
                                  · have fc_280 := nle_f c_280
                                    have b_288 : bd 1 3 x_279 := ltR fc_280 kb_0 bx_279 (by decide)
                                    refine lv_aload_n hx hb dX14_goOver_266 rfl (lv_at hl 9 rfl) ?_
                                    refine lv_iload hx hb dX14_goOver_267 (lv_at hl 5 rfl) ?_
                                    refine lv_iconst (v := 0) hx hb dX14_goOver_269 (by decide) ?_
                                    refine lv_iload hx hb dX14_goOver_270 (lv_at hl 0 rfl) ?_
                                    refine lv_iload hx hb dX14_goOver_272 (lv_at hl 3 rfl) ?_
                                    refine lv_iload hx hb dX14_goOver_274 (lv_at hl 2 rfl) ?_
                                    refine lv_imul hx hb dX14_goOver_276 ?_
                                    refine lv_topi (fun y_289 ey_289 => ?_)
                                    obtain rfl : y_289 = 1 := ey_289.trans (by decide)
                                    refine lv_idiv hx hb dX14_goOver_277 (by decide) ?_
                                    refine lv_topi (fun y_290 ey_290 => ?_)
                                    have b_291 : bd 0 2 y_290 := div_rg ey_290 b_237 kb_1 (by decide)
                                    have go_ := g
                                    refine g_calli (va_runV (As := [.int x_96, .int 0, .int y_290]) (rest := []) ⟨hx, hb, hml, hown, hts⟩ (r_X14_valueOf_8 l dC dI L kd tys f H.size g.2.2.2.1 a0_ ma0_ ka0_ x_96 bx_96 0 kb_0 y_290 b_291 r_ b_32 k_ b_227 (g.fcts [4, 5] rfl)) (cwV 3 hts (gV_ t_2764 t_2766 t_175 t_198 t_2767) rfl rfl rfl (by decide +kernel) ⟨(show 0 + 1 ≤ N + 1 + 980 by omega), (show 8 + (6 + 11) + 0 ≤ 60 * (N + 1) + 39317 by omega)⟩) (pre3V g hK ma0_ ka0_ (by decide) (q := (RX14, TX14, 67)) rfl) rfl rfl hl.1 rfl (lv_room (Nat.le_of_ble_eq_true rfl)) dX14_goOver_278 ⟨(Nat.le_of_ble_eq_true rfl), (Nat.le_of_ble_eq_true rfl)⟩) g hK (by decide) (by decide) (fx' := [(12, 19, q0_, .ref a_97), (12, 14, q0_, .ref a_91), (12, 15, q0_, .ref a_43), (14, 1, a0_, .ref q0_), (14, 51, a0_, .int r_), (14, 52, a0_, .int k_)]) rfl (fun r_292 fr_292 H locs hp hMr_292 g => ?_)
                                    have hG_293 := isV.frame hMr_292 go_.2.2.2.1 mq0_ kq0_ (by decide) (by decide) hG240_V_q0_
                                    have hG_294 := mOK.frame hMr_292 go_.2.2.2.1 mq0_ kq0_ (by decide) (by decide) hG240_m_q0_
                                    have hG_295 := tOK.frame hMr_292 go_.2.2.2.1 ma0_ ka0_ (by decide) (by decide) hG240_t_a0_
                                    have hG_296 := oOK.frame hMr_292 go_.2.2.2.1 ma0_ ka0_ (by decide) (by decide) hG240_o_a0_
                                    have hG_297 := isW.frame hMr_292 go_.2.2.2.1 ma0_ ka0_ (by decide) (by decide) hW240
                                    refine lv_goto (tgt := 285) hx hb dX14_goOver_281 (by decide) ?_
                                    refine lv_istore (lv' := [(12, .int r_292), (11, .int v240_11), (10, .int v230_10), (9, .int 1), (8, .int 1), (7, .int r_210), (6, .int x_96), (5, .int v116_5), (4, .int k_), (3, .int r_), (0, .ref a0_), (1, .int x1_), (2, .int x2_)]) hx hb dX14_goOver_285 hl (by decide) rfl (fun ls hl => ?_)
                                    refine lv_aload_n hx hb dX14_goOver_287 rfl (lv_at hl 10 rfl) ?_
                                    refine g_getk (C := RX14) (T := TX14) (N := 67) hx hb hts (mc_ inX14) hown hK g rfl 1 (by decide) rfl (hts _ (List.mem_cons_of_mem _ t_2147)) (fun _ h9 => h9) 3 rfl dX14_goOver_288 ?_
                                    refine g_getk (C := RX12) (T := TX12) (N := 60) hx hb hts (mc_ inX12) hown hK g rfl 19 (by decide) rfl (hts _ (List.mem_cons_of_mem _ t_1944)) (fun _ h9 => h9) 0 rfl dX14_goOver_291 ?_
                                    refine lv_iload hx hb dX14_goOver_294 (lv_at hl 6 rfl) ?_
                                    refine g_iald hx hb hK g ma_97 ka_97 (by decide) rfl (in_bd bx_96 (by decide)) dX14_goOver_296 (fun x_298 bx_298 cx_298 => ?_)
                                    obtain rfl : x_279 = x_298 := el_same cx_279 cx_298 (arr_eq hMr_292 ma_97 ka_97 (by decide) rfl)
                                    refine lv_iconst (v := 1) hx hb dX14_goOver_297 (by decide) ?_
                                    refine lv_icmp_le (tgt := 319) hx hb dX14_goOver_298 (by decide) (fun c_299 => ?_) (fun c_299 => ?_)
                                    · have fc_299 := le_f c_299
                                      have b_300 : bd 1 1 x_279 := leL fc_299 b_288 kb_1 (by decide)
                                      refine lv_iconst (v := 0) hx hb dX14_goOver_319 (by decide) ?_
                                      refine lv_istore (lv' := [(13, .int 0), (12, .int r_292), (11, .int v240_11), (10, .int v230_10), (9, .int 1), (8, .int 1), (7, .int r_210), (6, .int x_96), (5, .int v116_5), (4, .int k_), (3, .int r_), (0, .ref a0_), (1, .int x1_), (2, .int x2_)]) hx hb dX14_goOver_320 hl (by decide) rfl (fun ls hl => ?_)
                                      refine lv_aload_n hx hb dX14_goOver_322 rfl (lv_at hl 11 rfl) ?_
                                      refine g_getk (C := RX14) (T := TX14) (N := 67) hx hb hts (mc_ inX14) hown hK g rfl 1 (by decide) rfl (hts _ (List.mem_cons_of_mem _ t_2147)) (fun _ h9 => h9) 3 rfl dX14_goOver_323 ?_
                                      refine g_getk (C := RX12) (T := TX12) (N := 60) hx hb hts (mc_ inX12) hown hK g rfl 19 (by decide) rfl (hts _ (List.mem_cons_of_mem _ t_1944)) (fun _ h9 => h9) 0 rfl dX14_goOver_326 ?_
                                      refine lv_iload hx hb dX14_goOver_329 (lv_at hl 7 rfl) ?_
                                      refine g_iald hx hb hK g ma_97 ka_97 (by decide) rfl (in_bd bx_96 (by decide)) dX14_goOver_331 (fun x_301 bx_301 cx_301 => ?_)
                                      obtain rfl : x_279 = x_301 := el_same cx_279 cx_301 (arr_eq hMr_292 ma_97 ka_97 (by decide) rfl)
                                      refine lv_iconst (v := 2) hx hb dX14_goOver_332 (by decide) ?_
                                      refine lv_icmp_le (tgt := 351) hx hb dX14_goOver_333 (by decide) (fun c_302 => ?_) (fun c_302 => ?_)
                                      · have fc_302 := le_f c_302
                                        refine lv_iconst (v := 0) hx hb dX14_goOver_351 (by decide) ?_
                                        refine lv_istore (lv' := [(14, .int 0), (13, .int 0), (12, .int r_292), (11, .int v240_11), (10, .int v230_10), (9, .int 1), (8, .int 1), (7, .int r_210), (6, .int x_96), (5, .int v116_5), (4, .int k_), (3, .int r_), (0, .ref a0_), (1, .int x1_), (2, .int x2_)]) hx hb dX14_goOver_352 hl (by decide) rfl (fun ls hl => ?_)
                                        have hl9 := lv_sub hl [0, 1, 2, 3, 4, 5, 6, 7, 8, 9, 10, 11, 12, 13, 14] (by rfl : lv_pick [(14, .int 0), (13, .int 0), (12, .int r_292), (11, .int v240_11), (10, .int v230_10), (9, .int 1), (8, .int 1), (7, .int r_210), (6, .int x_96), (5, .int v116_5), (4, .int k_), (3, .int r_), (0, .ref a0_), (1, .int x1_), (2, .int x2_)] [0, 1, 2, 3, 4, 5, 6, 7, 8, 9, 10, 11, 12, 13, 14] = [(14, .int 0), (13, .int 0), (12, .int r_292), (11, .int v240_11), (10, .int v230_10), (9, .int 1), (8, .int 1), (7, .int r_210), (6, .int x_96), (5, .int v116_5), (4, .int k_), (3, .int r_), (0, .ref a0_), (1, .int x1_), (2, .int x2_)])
                                        have g9 := g.sub (fx' := [(12, 19, q0_, .ref a_97), (12, 14, q0_, .ref a_91), (12, 15, q0_, .ref a_43), (14, 1, a0_, .ref q0_), (14, 51, a0_, .int r_), (14, 52, a0_, .int k_)]) [0, 1, 2, 3, 4, 5] rfl
                                        exact join_238 0 0 r_292 _ _ _ _  g9 hG_293 hG_294 hG_295 hG_296 hG_297 hl9
                                      · have fc_302 := nle_f c_302
                                        have b_303 : bd 2 0 (2 : Int32) := ltL fc_302 kb_2 b_300 (by decide)
                                        exact bd_no (eqX rfl b_303 kb_2 (lo := 2) (hi := 0) (by decide)) (by decide)
                                    · have fc_299 := nle_f c_299
                                      have b_304 : bd 2 3 x_279 := ltR fc_299 kb_1 b_288 (by decide)
                                      refine lv_aload_n hx hb dX14_goOver_301 rfl (lv_at hl 10 rfl) ?_
                                      refine lv_iload hx hb dX14_goOver_302 (lv_at hl 6 rfl) ?_
                                      refine lv_iconst (v := 1) hx hb dX14_goOver_304 (by decide) ?_
                                      refine lv_iload hx hb dX14_goOver_305 (lv_at hl 1 rfl) ?_
                                      refine lv_iload hx hb dX14_goOver_307 (lv_at hl 3 rfl) ?_
                                      refine lv_idiv hx hb dX14_goOver_309 (by decide) ?_
                                      refine lv_topi (fun y_305 ey_305 => ?_)
                                      obtain rfl : y_290 = y_305 := ey_290.trans ey_305.symm
                                      refine lv_iload hx hb dX14_goOver_310 (lv_at hl 4 rfl) ?_
                                      refine lv_irem hx hb dX14_goOver_312 (by decide) ?_
                                      refine lv_topi (fun y_306 ey_306 => ?_)
                                      have b_307 : bd 0 0 y_306 := rem_rg ey_306 b_291 kb_1 (by decide)
                                      have go_ := g
                                      refine g_calli (va_runV (As := [.int x_96, .int 1, .int y_306]) (rest := []) ⟨hx, hb, hml, hown, hts⟩ (r_X14_valueOf_5 l dC dI L kd tys fr_292 H.size g.2.2.2.1 a0_ ma0_ ka0_ x_96 bx_96 1 kb_1 y_306 b_307 r_ b_32 k_ b_227 (g.fcts [4, 5] rfl)) (cwV 3 hts (gV_ t_2764 t_2766 t_175 t_198 t_2767) rfl rfl rfl (by decide +kernel) ⟨(show 0 + 1 ≤ N + 1 + 980 by omega), (show 8 + (6 + 11) + 0 ≤ 60 * (N + 1) + 39317 by omega)⟩) (pre3V g hK ma0_ ka0_ (by decide) (q := (RX14, TX14, 67)) rfl) rfl rfl hl.1 rfl (lv_room (Nat.le_of_ble_eq_true rfl)) dX14_goOver_313 ⟨(Nat.le_of_ble_eq_true rfl), (Nat.le_of_ble_eq_true rfl)⟩) g hK (by decide) (by decide) (fx' := [(12, 19, q0_, .ref a_97), (12, 14, q0_, .ref a_91), (12, 15, q0_, .ref a_43), (14, 1, a0_, .ref q0_), (14, 51, a0_, .int r_), (14, 52, a0_, .int k_)]) rfl (fun r_308 fr_308 H locs hp hMr_308 g => ?_)
                                      have hG_309 := isV.frame hMr_308 go_.2.2.2.1 mq0_ kq0_ (by decide) (by decide) hG_293
                                      have hG_310 := mOK.frame hMr_308 go_.2.2.2.1 mq0_ kq0_ (by decide) (by decide) hG_294
                                      have hG_311 := tOK.frame hMr_308 go_.2.2.2.1 ma0_ ka0_ (by decide) (by decide) hG_295
                                      have hG_312 := oOK.frame hMr_308 go_.2.2.2.1 ma0_ ka0_ (by decide) (by decide) hG_296
                                      have hG_313 := isW.frame hMr_308 go_.2.2.2.1 ma0_ ka0_ (by decide) (by decide) hG_297
                                      refine lv_goto (tgt := 320) hx hb dX14_goOver_316 (by decide) ?_
                                      refine lv_istore (lv' := [(13, .int r_308), (12, .int r_292), (11, .int v240_11), (10, .int v230_10), (9, .int 1), (8, .int 1), (7, .int r_210), (6, .int x_96), (5, .int v116_5), (4, .int k_), (3, .int r_), (0, .ref a0_), (1, .int x1_), (2, .int x2_)]) hx hb dX14_goOver_320 hl (by decide) rfl (fun ls hl => ?_)
                                      refine lv_aload_n hx hb dX14_goOver_322 rfl (lv_at hl 11 rfl) ?_
                                      refine g_getk (C := RX14) (T := TX14) (N := 67) hx hb hts (mc_ inX14) hown hK g rfl 1 (by decide) rfl (hts _ (List.mem_cons_of_mem _ t_2147)) (fun _ h9 => h9) 3 rfl dX14_goOver_323 ?_
                                      refine g_getk (C := RX12) (T := TX12) (N := 60) hx hb hts (mc_ inX12) hown hK g rfl 19 (by decide) rfl (hts _ (List.mem_cons_of_mem _ t_1944)) (fun _ h9 => h9) 0 rfl dX14_goOver_326 ?_
                                      refine lv_iload hx hb dX14_goOver_329 (lv_at hl 7 rfl) ?_
                                      refine g_iald hx hb hK g ma_97 ka_97 (by decide) rfl (in_bd bx_96 (by decide)) dX14_goOver_331 (fun x_314 bx_314 cx_314 => ?_)
                                      obtain rfl : x_279 = x_314 := el_same cx_279 cx_314 ((arr_eq hMr_308 ma_97 ka_97 (by decide) rfl).trans (arr_eq hMr_292 ma_97 ka_97 (by decide) rfl))
                                      refine lv_iconst (v := 2) hx hb dX14_goOver_332 (by decide) ?_
                                      refine lv_icmp_le (tgt := 351) hx hb dX14_goOver_333 (by decide) (fun c_315 => ?_) (fun c_315 => ?_)
                                      · have fc_315 := le_f c_315
                                        have b_316 : bd 2 2 x_279 := leL fc_315 b_304 kb_2 (by decide)
                                        refine lv_iconst (v := 0) hx hb dX14_goOver_351 (by decide) ?_
                                        refine lv_istore (lv' := [(14, .int 0), (13, .int r_308), (12, .int r_292), (11, .int v240_11), (10, .int v230_10), (9, .int 1), (8, .int 1), (7, .int r_210), (6, .int x_96), (5, .int v116_5), (4, .int k_), (3, .int r_), (0, .ref a0_), (1, .int x1_), (2, .int x2_)]) hx hb dX14_goOver_352 hl (by decide) rfl (fun ls hl => ?_)
                                        have hl9 := lv_sub hl [0, 1, 2, 3, 4, 5, 6, 7, 8, 9, 10, 11, 12, 13, 14] (by rfl : lv_pick [(14, .int 0), (13, .int r_308), (12, .int r_292), (11, .int v240_11), (10, .int v230_10), (9, .int 1), (8, .int 1), (7, .int r_210), (6, .int x_96), (5, .int v116_5), (4, .int k_), (3, .int r_), (0, .ref a0_), (1, .int x1_), (2, .int x2_)] [0, 1, 2, 3, 4, 5, 6, 7, 8, 9, 10, 11, 12, 13, 14] = [(14, .int 0), (13, .int r_308), (12, .int r_292), (11, .int v240_11), (10, .int v230_10), (9, .int 1), (8, .int 1), (7, .int r_210), (6, .int x_96), (5, .int v116_5), (4, .int k_), (3, .int r_), (0, .ref a0_), (1, .int x1_), (2, .int x2_)])
                                        have g9 := g.sub (fx' := [(12, 19, q0_, .ref a_97), (12, 14, q0_, .ref a_91), (12, 15, q0_, .ref a_43), (14, 1, a0_, .ref q0_), (14, 51, a0_, .int r_), (14, 52, a0_, .int k_)]) [0, 1, 2, 3, 4, 5] rfl
                                        exact join_238 0 r_308 r_292 _ _ _ _  g9 hG_309 hG_310 hG_311 hG_312 hG_313 hl9
                                      · have fc_315 := nle_f c_315
                                        have b_317 : bd 3 3 x_279 := ltR fc_315 kb_2 b_304 (by decide)
                                        refine lv_aload_n hx hb dX14_goOver_336 rfl (lv_at hl 11 rfl) ?_
                                        refine lv_iload hx hb dX14_goOver_337 (lv_at hl 7 rfl) ?_
                                        refine lv_iconst (v := 2) hx hb dX14_goOver_339 (by decide) ?_
                                        refine lv_iload hx hb dX14_goOver_340 (lv_at hl 2 rfl) ?_
                                        refine lv_iload hx hb dX14_goOver_342 (lv_at hl 4 rfl) ?_
                                        refine lv_irem hx hb dX14_goOver_344 (by decide) ?_
                                        refine lv_topi (fun y_318 ey_318 => ?_)
                                        have b_319 : bd 0 0 y_318 := rem_rg ey_318 b_237 kb_1 (by decide)
                                        have go_ := g
                                        refine g_calli (va_runV (As := [.int x_96, .int 2, .int y_318]) (rest := []) ⟨hx, hb, hml, hown, hts⟩ (r_X14_valueOf_6 l dC dI L kd tys fr_308 H.size g.2.2.2.1 a0_ ma0_ ka0_ x_96 bx_96 2 kb_2 y_318 b_319 r_ b_32 k_ b_227 (g.fcts [4, 5] rfl)) (cwV 3 hts (gV_ t_2764 t_2766 t_175 t_198 t_2767) rfl rfl rfl (by decide +kernel) ⟨(show 0 + 1 ≤ N + 1 + 980 by omega), (show 8 + (6 + 11) + 0 ≤ 60 * (N + 1) + 39317 by omega)⟩) (pre3V g hK ma0_ ka0_ (by decide) (q := (RX14, TX14, 67)) rfl) rfl rfl hl.1 rfl (lv_room (Nat.le_of_ble_eq_true rfl)) dX14_goOver_345 ⟨(Nat.le_of_ble_eq_true rfl), (Nat.le_of_ble_eq_true rfl)⟩) g hK (by decide) (by decide) (fx' := [(12, 19, q0_, .ref a_97), (12, 14, q0_, .ref a_91), (12, 15, q0_, .ref a_43), (14, 1, a0_, .ref q0_), (14, 51, a0_, .int r_), (14, 52, a0_, .int k_)]) rfl (fun r_320 fr_320 H locs hp hMr_320 g => ?_)
                                        have hG_321 := isV.frame hMr_320 go_.2.2.2.1 mq0_ kq0_ (by decide) (by decide) hG_309
                                        have hG_322 := mOK.frame hMr_320 go_.2.2.2.1 mq0_ kq0_ (by decide) (by decide) hG_310
                                        have hG_323 := tOK.frame hMr_320 go_.2.2.2.1 ma0_ ka0_ (by decide) (by decide) hG_311
                                        have hG_324 := oOK.frame hMr_320 go_.2.2.2.1 ma0_ ka0_ (by decide) (by decide) hG_312
                                        have hG_325 := isW.frame hMr_320 go_.2.2.2.1 ma0_ ka0_ (by decide) (by decide) hG_313
                                        refine lv_goto (tgt := 352) hx hb dX14_goOver_348 (by decide) ?_
                                        refine lv_istore (lv' := [(14, .int r_320), (13, .int r_308), (12, .int r_292), (11, .int v240_11), (10, .int v230_10), (9, .int 1), (8, .int 1), (7, .int r_210), (6, .int x_96), (5, .int v116_5), (4, .int k_), (3, .int r_), (0, .ref a0_), (1, .int x1_), (2, .int x2_)]) hx hb dX14_goOver_352 hl (by decide) rfl (fun ls hl => ?_)
                                        have hl9 := lv_sub hl [0, 1, 2, 3, 4, 5, 6, 7, 8, 9, 10, 11, 12, 13, 14] (by rfl : lv_pick [(14, .int r_320), (13, .int r_308), (12, .int r_292), (11, .int v240_11), (10, .int v230_10), (9, .int 1), (8, .int 1), (7, .int r_210), (6, .int x_96), (5, .int v116_5), (4, .int k_), (3, .int r_), (0, .ref a0_), (1, .int x1_), (2, .int x2_)] [0, 1, 2, 3, 4, 5, 6, 7, 8, 9, 10, 11, 12, 13, 14] = [(14, .int r_320), (13, .int r_308), (12, .int r_292), (11, .int v240_11), (10, .int v230_10), (9, .int 1), (8, .int 1), (7, .int r_210), (6, .int x_96), (5, .int v116_5), (4, .int k_), (3, .int r_), (0, .ref a0_), (1, .int x1_), (2, .int x2_)])
                                        have g9 := g.sub (fx' := [(12, 19, q0_, .ref a_97), (12, 14, q0_, .ref a_91), (12, 15, q0_, .ref a_43), (14, 1, a0_, .ref q0_), (14, 51, a0_, .int r_), (14, 52, a0_, .int k_)]) [0, 1, 2, 3, 4, 5] rfl
                                        exact join_238 r_320 r_308 r_292 _ _ _ _  g9 hG_321 hG_322 hG_323 hG_324 hG_325 hl9
                            have hl9 := lv_sub hl [0, 1, 2, 3, 4, 5, 6, 7, 8, 9, 10, 11] (by rfl : lv_pick [(11, .int 0), (10, .int v230_10), (9, .int 1), (8, .int 1), (7, .int r_210), (6, .int x_96), (5, .int v116_5), (4, .int k_), (3, .int r_), (0, .ref a0_), (1, .int x1_), (2, .int x2_)] [0, 1, 2, 3, 4, 5, 6, 7, 8, 9, 10, 11] = [(11, .int 0), (10, .int v230_10), (9, .int 1), (8, .int 1), (7, .int r_210), (6, .int x_96), (5, .int v116_5), (4, .int k_), (3, .int r_), (0, .ref a0_), (1, .int x1_), (2, .int x2_)])
                            have g9 := g.sub (fx' := [(12, 19, q0_, .ref a_97), (12, 14, q0_, .ref a_91), (12, 15, q0_, .ref a_43), (14, 1, a0_, .ref q0_), (14, 51, a0_, .int r_), (14, 52, a0_, .int k_)]) [0, 1, 2, 3, 4, 5] rfl
                            exact loop_228 (9) 0 (bd_sub kb_0 (by decide)) (by have h9_0 := kb_0; unfold bd at h9_0; have h9_1 := kb_1; unfold bd at h9_1; have h9_2 := kb_2; unfold bd at h9_2; have h9_3 := kb_m1; unfold bd at h9_3; omega) _ _ _ _ g9 hG230_V_q0_ hG230_m_q0_ hG230_t_a0_ hG230_o_a0_ ⟨_, hW230, hI230, hp230⟩ hl9
                      have hl9 := lv_sub hl [0, 1, 2, 3, 4, 5, 6, 7, 8, 9, 10] (by rfl : lv_pick [(10, .int 0), (9, .int 1), (8, .int 1), (7, .int r_210), (6, .int x_96), (5, .int v116_5), (4, .int k_), (3, .int r_), (0, .ref a0_), (1, .int x1_), (2, .int x2_)] [0, 1, 2, 3, 4, 5, 6, 7, 8, 9, 10] = [(10, .int 0), (9, .int 1), (8, .int 1), (7, .int r_210), (6, .int x_96), (5, .int v116_5), (4, .int k_), (3, .int r_), (0, .ref a0_), (1, .int x1_), (2, .int x2_)])
                      have g9 := g.sub (fx' := [(12, 19, q0_, .ref a_97), (12, 14, q0_, .ref a_91), (12, 15, q0_, .ref a_43), (14, 1, a0_, .ref q0_), (14, 51, a0_, .int r_), (14, 52, a0_, .int k_)]) [0, 1, 2, 3, 4, 5] rfl
                      exact loop_222 (9) 0 (bd_sub kb_0 (by decide)) (by have h9_0 := kb_0; unfold bd at h9_0; have h9_1 := kb_1; unfold bd at h9_1; have h9_2 := kb_2; unfold bd at h9_2; have h9_3 := kb_m1; unfold bd at h9_3; omega) _ _ _ _ g9 hG_212 hG_213 hG_214 hG_215 ⟨_, hG_216, hI116, hp116⟩ hl9
                    · have fc_221 := nle_f c_221
                      have b_326 : bd 2 0 (2 : Int32) := ltL fc_221 kb_2 b_219 (by decide)
                      exact bd_no (eqX rfl b_326 kb_2 (lo := 2) (hi := 0) (by decide)) (by decide)
                  · have fc_218 := nle_f c_218
                    have b_327 : bd 2 3 x_98 := ltR fc_218 kb_1 b_209 (by decide)
                    refine lv_aload_n hx hb dX14_goOver_187 rfl (lv_at hl 5 rfl) ?_
                    refine lv_iload hx hb dX14_goOver_188 (lv_at hl 1 rfl) ?_
                    refine lv_iconst (v := 1) hx hb dX14_goOver_190 (by decide) ?_
                    have go_ := g
                    refine g_calli (va_runV (As := [.int x_96, .int 1]) (rest := []) ⟨hx, hb, hml, hown, hts⟩ (r_X14_values_5 l dC dI L kd tys fr_210 H.size g.2.2.2.1 a0_ ma0_ ka0_ x_96 bx_96 1 kb_1 r_ b_32 (g.fcts [4] rfl)) (cwV 2 hts (gV_ t_2760 t_2762 t_174 t_198 t_2763) rfl rfl rfl (by decide +kernel) ⟨(show 0 + 1 ≤ N + 1 + 980 by omega), (show 8 + (5 + 11) + 0 ≤ 60 * (N + 1) + 39317 by omega)⟩) (pre3V g hK ma0_ ka0_ (by decide) (q := (RX14, TX14, 67)) rfl) rfl rfl hl.1 rfl (lv_room (Nat.le_of_ble_eq_true rfl)) dX14_goOver_191 ⟨(Nat.le_of_ble_eq_true rfl), (Nat.le_of_ble_eq_true rfl)⟩) g hK (by decide) (by decide) (fx' := [(12, 19, q0_, .ref a_97), (12, 14, q0_, .ref a_91), (12, 15, q0_, .ref a_43), (14, 1, a0_, .ref q0_), (14, 51, a0_, .int r_), (14, 52, a0_, .int k_)]) rfl (fun r_328 fr_328 H locs hp hMr_328 g => ?_)
                    obtain ⟨h_329, -⟩ := hp
                    have hG_330 := isV.frame hMr_328 go_.2.2.2.1 mq0_ kq0_ (by decide) (by decide) hG_212
                    have hG_331 := mOK.frame hMr_328 go_.2.2.2.1 mq0_ kq0_ (by decide) (by decide) hG_213
                    have hG_332 := tOK.frame hMr_328 go_.2.2.2.1 ma0_ ka0_ (by decide) (by decide) hG_214
                    have hG_333 := oOK.frame hMr_328 go_.2.2.2.1 ma0_ ka0_ (by decide) (by decide) hG_215
                    have hG_334 := isW.frame hMr_328 go_.2.2.2.1 ma0_ ka0_ (by decide) (by decide) hG_216
                    refine lv_goto (tgt := 198) hx hb dX14_goOver_194 (by decide) ?_
                    refine lv_istore (lv' := [(8, .int r_328), (7, .int r_210), (6, .int x_96), (5, .int v116_5), (4, .int k_), (3, .int r_), (0, .ref a0_), (1, .int x1_), (2, .int x2_)]) hx hb dX14_goOver_198 hl (by decide) rfl (fun ls hl => ?_)
                    refine lv_aload_n hx hb dX14_goOver_200 rfl (lv_at hl 6 rfl) ?_
                    refine g_getk (C := RX14) (T := TX14) (N := 67) hx hb hts (mc_ inX14) hown hK g rfl 1 (by decide) rfl (hts _ (List.mem_cons_of_mem _ t_2147)) (fun _ h9 => h9) 3 rfl dX14_goOver_201 ?_
                    refine g_getk (C := RX12) (T := TX12) (N := 60) hx hb hts (mc_ inX12) hown hK g rfl 19 (by decide) rfl (hts _ (List.mem_cons_of_mem _ t_1944)) (fun _ h9 => h9) 0 rfl dX14_goOver_204 ?_
                    refine lv_iload hx hb dX14_goOver_207 (lv_at hl 2 rfl) ?_
                    refine g_iald hx hb hK g ma_97 ka_97 (by decide) rfl (in_bd bx_96 (by decide)) dX14_goOver_209 (fun x_335 bx_335 cx_335 => ?_)
                    obtain rfl : x_98 = x_335 := el_same cx_98 cx_335 ((arr_eq hMr_328 ma_97 ka_97 (by decide) rfl).trans (arr_eq hMr_210 ma_97 ka_97 (by decide) rfl))
                    refine lv_iconst (v := 2) hx hb dX14_goOver_210 (by decide) ?_
                    have kb_2 : bd 2 2 (2 : Int32) := ⟨by decide, by decide⟩
                    refine lv_icmp_le (tgt := 224) hx hb dX14_goOver_211 (by decide) (fun c_336 => ?_) (fun c_336 => ?_)
                    · have fc_336 := le_f c_336
                      have b_337 : bd 2 2 x_98 := leL fc_336 b_327 kb_2 (by decide)
                      refine lv_iconst (v := 1) hx hb dX14_goOver_224 (by decide) ?_
                      refine lv_istore (lv' := [(9, .int 1), (8, .int r_328), (7, .int r_210), (6, .int x_96), (5, .int v116_5), (4, .int k_), (3, .int r_), (0, .ref a0_), (1, .int x1_), (2, .int x2_)]) hx hb dX14_goOver_225 hl (by decide) rfl (fun ls hl => ?_)
                      refine lv_iconst (v := 0) hx hb dX14_goOver_227 (by decide) ?_
                      refine lv_istore (lv' := [(10, .int 0), (9, .int 1), (8, .int r_328), (7, .int r_210), (6, .int x_96), (5, .int v116_5), (4, .int k_), (3, .int r_), (0, .ref a0_), (1, .int x1_), (2, .int x2_)]) hx hb dX14_goOver_228 hl (by decide) rfl (fun ls hl => ?_)
                      have loop_338 : ∀ (n : Nat) (v230_10 : Int32), bd 0 3 v230_10 → (3 - v230_10.toInt < (n : Int)) → ∀ (f : Nat → va_E) (H : Heap) (locs : List Loc) (ls : Array Slot), G3 (dC, dI) L kd tys s f0 [(14, 30), (14, 31), (14, 32), (14, 33), (14, 34), (14, 35), (14, 36), (14, 37), (14, 38), (14, 39), (14, 40), (14, 45), (14, 51), (14, 52), (14, 53), (14, 55), (14, 58), (14, 59), (14, 61), (14, 65), (14, 66)] [200, 215, 216, 217, 218, 219, 220, 221, 222, 223, 224, 225, 226, 227, 228, 229, 230, 231, 232] f H locs [(12, 19, q0_, .ref a_97), (12, 14, q0_, .ref a_91), (12, 15, q0_, .ref a_43), (14, 1, a0_, .ref q0_), (14, 51, a0_, .int r_), (14, 52, a0_, .int k_)] → isV f q0_ V_ → mOK f q0_ V_ → tOK f a0_ V_ → oOK f a0_ V_ → (∃ R : RW, isW f a0_ R ∧ rwOK V_ R r_ k_ ∧ pfx RW_ R r_ k_) → lv_has ls 15 [(10, .int v230_10), (9, .int 1), (8, .int r_328), (7, .int r_210), (6, .int x_96), (5, .int v116_5), (4, .int k_), (3, .int r_), (0, .ref a0_), (1, .int x1_), (2, .int x2_)] → W p l e ({ frames := (N + 1) + 980, cells := 0, slots := 0, locals := 60 * (N + 1) + 39317 } : Room) s m [.ref a0_, .int x1_, .int x2_].toArray below meth c H locs 0 0 Q (F0 m 230 ls []) := by
                        intro n230
                        induction n230 with
                        | zero =>
                          intro v230_10 bv230_10 hm230 f H locs ls g hG230_V_q0_ hG230_m_q0_ hG230_t_a0_ hG230_o_a0_ ⟨R230, hW230, hI230, hp230⟩ hl
                          exact absurd hm230 (by have h9_v230_10 := bv230_10; unfold bd at h9_v230_10; omega)
                        | succ n230 ih230 =>
                          intro v230_10 bv230_10 hm230 f H locs ls g hG230_V_q0_ hG230_m_q0_ hG230_t_a0_ hG230_o_a0_ ⟨R230, hW230, hI230, hp230⟩ hl
                          refine lv_iload hx hb dX14_goOver_230 (lv_at hl 0 rfl) ?_
                          refine lv_iload hx hb dX14_goOver_232 (lv_at hl 6 rfl) ?_
                          refine lv_icmp_ge (tgt := 402) hx hb dX14_goOver_234 (by decide) (fun c_339 => ?_) (fun c_339 => ?_)
                          · have fc_339 := le_f c_339
                            obtain ⟨y_340, ey_340⟩ : ∃ z : Int32, z = v116_5 + 1 := ⟨_, rfl⟩
                            refine lv_iinc (v := y_340) (lv' := [(5, .int y_340), (10, .int v230_10), (9, .int 1), (8, .int r_328), (7, .int r_210), (6, .int x_96), (4, .int k_), (3, .int r_), (0, .ref a0_), (1, .int x1_), (2, .int x2_)]) hx hb dX14_goOver_402 hl (k := 5) rfl (by rw [ey_340]; rfl) (by decide) rfl (fun ls hl => ?_)
                            have ty_340 := add_bd ey_340 b_89 kb_1 (by decide)
                            have b_341 : bd 1 12 y_340 := add_rg ty_340 b_89 kb_1 (by decide)
                            refine lv_goto (tgt := 116) hx hb dX14_goOver_405 (by decide) ?_
                            have hl9 := lv_sub hl [0, 6, 7, 8, 9, 10] (by rfl : lv_pick [(5, .int y_340), (10, .int v230_10), (9, .int 1), (8, .int r_328), (7, .int r_210), (6, .int x_96), (4, .int k_), (3, .int r_), (0, .ref a0_), (1, .int x1_), (2, .int x2_)] [0, 6, 7, 8, 9, 10] = [(5, .int y_340), (4, .int k_), (3, .int r_), (0, .ref a0_), (1, .int x1_), (2, .int x2_)])
                            have g9 := g.sub (fx' := [(14, 1, a0_, .ref q0_), (14, 51, a0_, .int r_), (14, 52, a0_, .int k_)]) [3, 4, 5] rfl
                            exact ih116  y_340 (bd_sub b_341 (by decide)) (by have h9_0 := b_341; unfold bd at h9_0; have h9_1 := bv116_5; unfold bd at h9_1; have h9_2 := kb_0; unfold bd at h9_2; have h9_3 := kb_1; unfold bd at h9_3; have h9_4 := kb_2; unfold bd at h9_4; have h9_5 := kb_m1; unfold bd at h9_5; omega) _ _ _ _ g9 hG230_V_q0_ hG230_m_q0_ hG230_t_a0_ hG230_o_a0_ ⟨_, hW230, hI230, hp230⟩ hl9
                          · have fc_339 := nle_f c_339
                            have b_342 : bd 0 2 v230_10 := ltL fc_339 bv230_10 bk_ (by decide)
                            have b_343 : bd 1 3 k_ := ltR fc_339 bv230_10 bk_ (by decide)
                            refine lv_iconst (v := 0) hx hb dX14_goOver_237 (by decide) ?_
                            refine lv_istore (lv' := [(11, .int 0), (10, .int v230_10), (9, .int 1), (8, .int r_328), (7, .int r_210), (6, .int x_96), (5, .int v116_5), (4, .int k_), (3, .int r_), (0, .ref a0_), (1, .int x1_), (2, .int x2_)]) hx hb dX14_goOver_238 hl (by decide) rfl (fun ls hl => ?_)
                            have loop_344 : ∀ (n : Nat) (v240_11 : Int32), bd 0 9 v240_11 → (9 - v240_11.toInt < (n : Int)) → ∀ (f : Nat → va_E) (H : Heap) (locs : List Loc) (ls : Array Slot), G3 (dC, dI) L kd tys s f0 [(14, 30), (14, 31), (14, 32), (14, 33), (14, 34), (14, 35), (14, 36), (14, 37), (14, 38), (14, 39), (14, 40), (14, 45), (14, 51), (14, 52), (14, 53), (14, 55), (14, 58), (14, 59), (14, 61), (14, 65), (14, 66)] [200, 215, 216, 217, 218, 219, 220, 221, 222, 223, 224, 225, 226, 227, 228, 229, 230, 231, 232] f H locs [(12, 19, q0_, .ref a_97), (12, 14, q0_, .ref a_91), (12, 15, q0_, .ref a_43), (14, 1, a0_, .ref q0_), (14, 51, a0_, .int r_), (14, 52, a0_, .int k_)] → isV f q0_ V_ → mOK f q0_ V_ → tOK f a0_ V_ → oOK f a0_ V_ → (∃ R : RW, isW f a0_ R ∧ rwOK V_ R r_ k_ ∧ pfx RW_ R r_ k_) → lv_has ls 15 [(11, .int v240_11), (10, .int v230_10), (9, .int 1), (8, .int r_328), (7, .int r_210), (6, .int x_96), (5, .int v116_5), (4, .int k_), (3, .int r_), (0, .ref a0_), (1, .int x1_), (2, .int x2_)] → W p l e ({ frames := (N + 1) + 980, cells := 0, slots := 0, locals := 60 * (N + 1) + 39317 } : Room) s m [.ref a0_, .int x1_, .int x2_].toArray below meth c H locs 0 0 Q (F0 m 240 ls []) := by
                              intro n240
                              induction n240 with
                              | zero =>
                                intro v240_11 bv240_11 hm240 f H locs ls g hG240_V_q0_ hG240_m_q0_ hG240_t_a0_ hG240_o_a0_ ⟨R240, hW240, hI240, hp240⟩ hl
                                exact absurd hm240 (by have h9_v240_11 := bv240_11; unfold bd at h9_v240_11; omega)
                              | succ n240 ih240 =>
                                intro v240_11 bv240_11 hm240 f H locs ls g hG240_V_q0_ hG240_m_q0_ hG240_t_a0_ hG240_o_a0_ ⟨R240, hW240, hI240, hp240⟩ hl
                                refine lv_iload hx hb dX14_goOver_240 (lv_at hl 0 rfl) ?_
                                refine lv_iload hx hb dX14_goOver_242 (lv_at hl 4 rfl) ?_
                                refine lv_iload hx hb dX14_goOver_244 (lv_at hl 3 rfl) ?_
                                refine lv_imul hx hb dX14_goOver_246 ?_
                                refine lv_topi (fun y_345 ey_345 => ?_)
                                have b_346 : bd 1 9 y_345 := mul_rg ey_345 h_211 h_329 (by decide)
                                refine lv_iload hx hb dX14_goOver_247 (lv_at hl 2 rfl) ?_
                                refine lv_imul hx hb dX14_goOver_249 ?_
                                refine lv_topi (fun y_347 ey_347 => ?_)
                                have ty_347 := mulc_bd ey_347 (c := 1) (by decide) b_346 (by decide)
                                have b_348 : bd 1 9 y_347 := mulc_rg ty_347 b_346 (by decide)
                                refine lv_icmp_ge (tgt := 396) hx hb dX14_goOver_250 (by decide) (fun c_349 => ?_) (fun c_349 => ?_)
                                · have fc_349 := le_f c_349
                                  have b_350 : bd 1 9 v240_11 := leR fc_349 b_348 bv240_11 (by decide)
                                  obtain ⟨y_351, ey_351⟩ : ∃ z : Int32, z = v230_10 + 1 := ⟨_, rfl⟩
                                  refine lv_iinc (v := y_351) (lv' := [(10, .int y_351), (11, .int v240_11), (9, .int 1), (8, .int r_328), (7, .int r_210), (6, .int x_96), (5, .int v116_5), (4, .int k_), (3, .int r_), (0, .ref a0_), (1, .int x1_), (2, .int x2_)]) hx hb dX14_goOver_396 hl (k := 1) rfl (by rw [ey_351]; rfl) (by decide) rfl (fun ls hl => ?_)
                                  have ty_351 := add_bd ey_351 b_342 kb_1 (by decide)
                                  have b_352 : bd 1 3 y_351 := add_rg ty_351 b_342 kb_1 (by decide)
                                  refine lv_goto (tgt := 230) hx hb dX14_goOver_399 (by decide) ?_
                                  have hl9 := lv_sub hl [0, 2, 3, 4, 5, 6, 7, 8, 9, 10, 11] (by rfl : lv_pick [(10, .int y_351), (11, .int v240_11), (9, .int 1), (8, .int r_328), (7, .int r_210), (6, .int x_96), (5, .int v116_5), (4, .int k_), (3, .int r_), (0, .ref a0_), (1, .int x1_), (2, .int x2_)] [0, 2, 3, 4, 5, 6, 7, 8, 9, 10, 11] = [(10, .int y_351), (9, .int 1), (8, .int r_328), (7, .int r_210), (6, .int x_96), (5, .int v116_5), (4, .int k_), (3, .int r_), (0, .ref a0_), (1, .int x1_), (2, .int x2_)])
                                  have g9 := g.sub (fx' := [(12, 19, q0_, .ref a_97), (12, 14, q0_, .ref a_91), (12, 15, q0_, .ref a_43), (14, 1, a0_, .ref q0_), (14, 51, a0_, .int r_), (14, 52, a0_, .int k_)]) [0, 1, 2, 3, 4, 5] rfl
                                  exact ih230  y_351 (bd_sub b_352 (by decide)) (by have h9_0 := b_352; unfold bd at h9_0; have h9_1 := bv230_10; unfold bd at h9_1; have h9_2 := kb_0; unfold bd at h9_2; have h9_3 := kb_1; unfold bd at h9_3; have h9_4 := kb_2; unfold bd at h9_4; have h9_5 := kb_m1; unfold bd at h9_5; omega) _ _ _ _ g9 hG240_V_q0_ hG240_m_q0_ hG240_t_a0_ hG240_o_a0_ ⟨_, hW240, hI240, hp240⟩ hl9
                                · have fc_349 := nle_f c_349
                                  have b_353 : bd 0 8 v240_11 := ltL fc_349 bv240_11 b_348 (by decide)
                                  have join_354 : ∀ (j354_14 : Int32) (j354_13 : Int32) (j354_12 : Int32) (f : Nat → va_E) (H : Heap) (locs : List Loc) (ls : Array Slot), G3 (dC, dI) L kd tys s f0 [(14, 30), (14, 31), (14, 32), (14, 33), (14, 34), (14, 35), (14, 36), (14, 37), (14, 38), (14, 39), (14, 40), (14, 45), (14, 51), (14, 52), (14, 53), (14, 55), (14, 58), (14, 59), (14, 61), (14, 65), (14, 66)] [200, 215, 216, 217, 218, 219, 220, 221, 222, 223, 224, 225, 226, 227, 228, 229, 230, 231, 232] f H locs [(12, 19, q0_, .ref a_97), (12, 14, q0_, .ref a_91), (12, 15, q0_, .ref a_43), (14, 1, a0_, .ref q0_), (14, 51, a0_, .int r_), (14, 52, a0_, .int k_)] → isV f q0_ V_ → mOK f q0_ V_ → tOK f a0_ V_ → oOK f a0_ V_ → isW f a0_ R240 → lv_has ls 15 [(14, .int j354_14), (13, .int j354_13), (12, .int j354_12), (11, .int v240_11), (10, .int v230_10), (9, .int 1), (8, .int r_328), (7, .int r_210), (6, .int x_96), (5, .int v116_5), (4, .int k_), (3, .int r_), (0, .ref a0_), (1, .int x1_), (2, .int x2_)] → W p l e ({ frames := (N + 1) + 980, cells := 0, slots := 0, locals := 60 * (N + 1) + 39317 } : Room) s m [.ref a0_, .int x1_, .int x2_].toArray below meth c H locs 0 0 Q (F0 m 354 ls []) := by
                                    intro j354_14 j354_13 j354_12 f H locs ls    g hJ354_V_q0_ hJ354_m_q0_ hJ354_t_a0_ hJ354_o_a0_ hJ354_W_a0_ hl
                                    refine lv_aload_n hx hb dX14_goOver_354 rfl (lv_at hl 12 rfl) ?_
                                    refine lv_iload hx hb dX14_goOver_355 (lv_at hl 4 rfl) ?_
                                    refine lv_iload hx hb dX14_goOver_357 (lv_at hl 9 rfl) ?_
                                    refine lv_iload hx hb dX14_goOver_359 (lv_at hl 2 rfl) ?_
                                    refine lv_iload hx hb dX14_goOver_361 (lv_at hl 1 rfl) ?_
                                    refine lv_iload hx hb dX14_goOver_363 (lv_at hl 0 rfl) ?_
                                    have go_ := g
                                    refine g_callv (va_runV (As := [.int v230_10, .int v116_5, .int j354_12, .int j354_13, .int j354_14]) (rest := []) ⟨hx, hb, hml, hown, hts⟩ (r_X14_addCall l dC dI L kd tys f H.size g.2.2.2.1 a0_ ma0_ ka0_ v230_10 b_342 v116_5 b_89 j354_12 j354_13 j354_14 q0_ mq0_ kq0_ r_ (bd_sub b_32 (by decide)) k_ (bd_sub b_343 (by decide)) V_ δ_ hW R240 hJ354_W_a0_ hJ354_V_q0_ hI240 fc_339 (by rw [(hall.pf hp240) v230_10.toNatClampNeg (by rw [tnZ b_342.1]; exact fc_339), ← vx_44]; exact fc_45) (g.fcts [3, 4, 5] rfl)) (cwV 5 hts (gV_ t_2606 t_2608 t_140 t_198 t_2609) rfl rfl rfl (by decide +kernel) ⟨(show 0 + 1 ≤ N + 1 + 980 by omega), (show 8 + (6 + 11) + 0 ≤ 60 * (N + 1) + 39317 by omega)⟩) (pre3V g hK ma0_ ka0_ (by decide) (q := (RX14, TX14, 67)) rfl) rfl rfl hl.1 rfl (lv_room (Nat.le_of_ble_eq_true rfl)) dX14_goOver_365 ⟨(Nat.le_of_ble_eq_true rfl), (Nat.le_of_ble_eq_true rfl)⟩) g hK (by decide) (by decide) (fx' := [(12, 19, q0_, .ref a_97), (12, 14, q0_, .ref a_91), (12, 15, q0_, .ref a_43), (14, 1, a0_, .ref q0_), (14, 52, a0_, .int k_)]) rfl (fun fr_355 H locs hp hMr_355 g => ?_)
                                    obtain ⟨hx_356, hx_357, x_358, ⟨h_359, rh_359⟩, hF_360⟩ := hp
                                    have hG_361 := isV.frame hMr_355 go_.2.2.2.1 mq0_ kq0_ (by decide) (by decide) hJ354_V_q0_
                                    have hG_362 := mOK.frame hMr_355 go_.2.2.2.1 mq0_ kq0_ (by decide) (by decide) hJ354_m_q0_
                                    have hG_363 := tOK.frame hMr_355 go_.2.2.2.1 ma0_ ka0_ (by decide) (by decide) hJ354_t_a0_
                                    have hG_364 := oOK.frame hMr_355 go_.2.2.2.1 ma0_ ka0_ (by decide) (by decide) hJ354_o_a0_
                                    have g := g.more hF_360
                                    refine lv_aload_n hx hb dX14_goOver_368 rfl (lv_at hl 12 rfl) ?_
                                    refine lv_iload_n hx hb dX14_goOver_369 rfl (lv_at hl 13 rfl) ?_
                                    refine lv_iload_n hx hb dX14_goOver_370 rfl (lv_at hl 14 rfl) ?_
                                    have b_365 : bd 0 4 x_358 := ⟨(by have h9_0 := b_343; unfold bd at h9_0; have h9_1 := b_32; unfold bd at h9_1; have h9_2 := h_211; unfold bd at h9_2; have h9_3 := h_329; unfold bd at h9_3; have h9_4 := b_89; unfold bd at h9_4; have h9_5 := b_342; unfold bd at h9_5; have h9_6 := b_353; unfold bd at h9_6; have h9_7 := bx1_; unfold bd at h9_7; have h9_8 := bx2_; unfold bd at h9_8; have h9_9 := bx_217; unfold bd at h9_9; have h9_10 := bx_335; unfold bd at h9_10; have h9_11 := h_359; unfold bd at h9_11; have h9_12 := b_90; unfold bd at h9_12; have h9_13 := bx_96; unfold bd at h9_13; have h9_14 := b_337; unfold bd at h9_14; have h9_15 := b_346; unfold bd at h9_15; have h9_16 := b_348; unfold bd at h9_16; have h9_17 := b_93; unfold bd at h9_17; have h9_18 := b_95; unfold bd at h9_18; have h8_0 := kb_0; unfold bd at h8_0; have h8_1 := kb_1; unfold bd at h8_1; have h8_2 := kb_2; unfold bd at h8_2; have h8_3 := kb_m1; unfold bd at h8_3; omega), (by have h9_0 := b_343; unfold bd at h9_0; have h9_1 := b_32; unfold bd at h9_1; have h9_2 := h_211; unfold bd at h9_2; have h9_3 := h_329; unfold bd at h9_3; have h9_4 := b_89; unfold bd at h9_4; have h9_5 := b_342; unfold bd at h9_5; have h9_6 := b_353; unfold bd at h9_6; have h9_7 := bx1_; unfold bd at h9_7; have h9_8 := bx2_; unfold bd at h9_8; have h9_9 := bx_217; unfold bd at h9_9; have h9_10 := bx_335; unfold bd at h9_10; have h9_11 := h_359; unfold bd at h9_11; have h9_12 := b_90; unfold bd at h9_12; have h9_13 := bx_96; unfold bd at h9_13; have h9_14 := b_337; unfold bd at h9_14; have h9_15 := b_346; unfold bd at h9_15; have h9_16 := b_348; unfold bd at h9_16; have h9_17 := b_93; unfold bd at h9_17; have h9_18 := b_95; unfold bd at h9_18; have h8_0 := kb_0; unfold bd at h8_0; have h8_1 := kb_1; unfold bd at h8_1; have h8_2 := kb_2; unfold bd at h8_2; have h8_3 := kb_m1; unfold bd at h8_3; omega)⟩
                                    have go_ := g
                                    refine g_calli (va_runV (As := [.int x1_, .int x2_]) (rest := []) ⟨hx, hb, hml, hown, hts⟩ (ih l dC dI L kd tys fr_355 H.size g.2.2.2.1 adK adV a0_ ma0_ ka0_ x1_ bx1_ x2_ bx2_ q0_ mq0_ kq0_ x_358 b_365 k_ (bd_sub b_343 (by decide)) V_ δ_ hW (R240.adC r_ v230_10 v116_5 j354_12 j354_13 j354_14) hG_361 hx_356 hG_362 hG_364 hG_363 (hx_357.1 _ _ (by have h9_0 := b_343; unfold bd at h9_0; have h9_1 := b_32; unfold bd at h9_1; have h9_2 := h_211; unfold bd at h9_2; have h9_3 := h_329; unfold bd at h9_3; have h9_4 := b_89; unfold bd at h9_4; have h9_5 := b_342; unfold bd at h9_5; have h9_6 := b_353; unfold bd at h9_6; have h9_7 := bx1_; unfold bd at h9_7; have h9_8 := bx2_; unfold bd at h9_8; have h9_9 := bx_217; unfold bd at h9_9; have h9_10 := bx_335; unfold bd at h9_10; have h9_11 := b_365; unfold bd at h9_11; have h9_12 := b_90; unfold bd at h9_12; have h9_13 := bx_96; unfold bd at h9_13; have h9_14 := b_337; unfold bd at h9_14; have h9_15 := b_346; unfold bd at h9_15; have h9_16 := b_348; unfold bd at h9_16; have h9_17 := b_93; unfold bd at h9_17; have h9_18 := b_95; unfold bd at h9_18; have h8_0 := kb_0; unfold bd at h8_0; have h8_1 := kb_1; unfold bd at h8_1; have h8_2 := kb_2; unfold bd at h8_2; have h8_3 := kb_m1; unfold bd at h8_3; omega) (by have h9_0 := b_343; unfold bd at h9_0; have h9_1 := b_32; unfold bd at h9_1; have h9_2 := h_211; unfold bd at h9_2; have h9_3 := h_329; unfold bd at h9_3; have h9_4 := b_89; unfold bd at h9_4; have h9_5 := b_342; unfold bd at h9_5; have h9_6 := b_353; unfold bd at h9_6; have h9_7 := bx1_; unfold bd at h9_7; have h9_8 := bx2_; unfold bd at h9_8; have h9_9 := bx_217; unfold bd at h9_9; have h9_10 := bx_335; unfold bd at h9_10; have h9_11 := b_365; unfold bd at h9_11; have h9_12 := b_90; unfold bd at h9_12; have h9_13 := bx_96; unfold bd at h9_13; have h9_14 := b_337; unfold bd at h9_14; have h9_15 := b_346; unfold bd at h9_15; have h9_16 := b_348; unfold bd at h9_16; have h9_17 := b_93; unfold bd at h9_17; have h9_18 := b_95; unfold bd at h9_18; have h8_0 := kb_0; unfold bd at h8_0; have h8_1 := kb_1; unfold bd at h8_1; have h8_2 := kb_2; unfold bd at h8_2; have h8_3 := kb_m1; unfold bd at h8_3; omega)) ((hall.pf hp240).ad hx_357 (Or.inl rfl) (by have h9_0 := b_343; unfold bd at h9_0; have h9_1 := b_32; unfold bd at h9_1; have h9_2 := h_211; unfold bd at h9_2; have h9_3 := h_329; unfold bd at h9_3; have h9_4 := b_89; unfold bd at h9_4; have h9_5 := b_342; unfold bd at h9_5; have h9_6 := b_353; unfold bd at h9_6; have h9_7 := bx1_; unfold bd at h9_7; have h9_8 := bx2_; unfold bd at h9_8; have h9_9 := bx_217; unfold bd at h9_9; have h9_10 := bx_335; unfold bd at h9_10; have h9_11 := b_365; unfold bd at h9_11; have h9_12 := b_90; unfold bd at h9_12; have h9_13 := bx_96; unfold bd at h9_13; have h9_14 := b_337; unfold bd at h9_14; have h9_15 := b_346; unfold bd at h9_15; have h9_16 := b_348; unfold bd at h9_16; have h9_17 := b_93; unfold bd at h9_17; have h9_18 := b_95; unfold bd at h9_18; have h8_0 := kb_0; unfold bd at h8_0; have h8_1 := kb_1; unfold bd at h8_1; have h8_2 := kb_2; unfold bd at h8_2; have h8_3 := kb_m1; unfold bd at h8_3; omega) (by have h9_0 := b_343; unfold bd at h9_0; have h9_1 := b_32; unfold bd at h9_1; have h9_2 := h_211; unfold bd at h9_2; have h9_3 := h_329; unfold bd at h9_3; have h9_4 := b_89; unfold bd at h9_4; have h9_5 := b_342; unfold bd at h9_5; have h9_6 := b_353; unfold bd at h9_6; have h9_7 := bx1_; unfold bd at h9_7; have h9_8 := bx2_; unfold bd at h9_8; have h9_9 := bx_217; unfold bd at h9_9; have h9_10 := bx_335; unfold bd at h9_10; have h9_11 := b_365; unfold bd at h9_11; have h9_12 := b_90; unfold bd at h9_12; have h9_13 := bx_96; unfold bd at h9_13; have h9_14 := b_337; unfold bd at h9_14; have h9_15 := b_346; unfold bd at h9_15; have h9_16 := b_348; unfold bd at h9_16; have h9_17 := b_93; unfold bd at h9_17; have h9_18 := b_95; unfold bd at h9_18; have h8_0 := kb_0; unfold bd at h8_0; have h8_1 := kb_1; unfold bd at h8_1; have h8_2 := kb_2; unfold bd at h8_2; have h8_3 := kb_m1; unfold bd at h8_3; omega)) hcl (by have h9_0 := b_343; unfold bd at h9_0; have h9_1 := b_32; unfold bd at h9_1; have h9_2 := h_211; unfold bd at h9_2; have h9_3 := h_329; unfold bd at h9_3; have h9_4 := b_89; unfold bd at h9_4; have h9_5 := b_342; unfold bd at h9_5; have h9_6 := b_353; unfold bd at h9_6; have h9_7 := bx1_; unfold bd at h9_7; have h9_8 := bx2_; unfold bd at h9_8; have h9_9 := bx_217; unfold bd at h9_9; have h9_10 := bx_335; unfold bd at h9_10; have h9_11 := b_365; unfold bd at h9_11; have h9_12 := b_90; unfold bd at h9_12; have h9_13 := bx_96; unfold bd at h9_13; have h9_14 := b_337; unfold bd at h9_14; have h9_15 := b_346; unfold bd at h9_15; have h9_16 := b_348; unfold bd at h9_16; have h9_17 := b_93; unfold bd at h9_17; have h9_18 := b_95; unfold bd at h9_18; have h8_0 := kb_0; unfold bd at h8_0; have h8_1 := kb_1; unfold bd at h8_1; have h8_2 := kb_2; unfold bd at h8_2; have h8_3 := kb_m1; unfold bd at h8_3; omega) (by have h9_0 := b_343; unfold bd at h9_0; have h9_1 := b_32; unfold bd at h9_1; have h9_2 := h_211; unfold bd at h9_2; have h9_3 := h_329; unfold bd at h9_3; have h9_4 := b_89; unfold bd at h9_4; have h9_5 := b_342; unfold bd at h9_5; have h9_6 := b_353; unfold bd at h9_6; have h9_7 := bx1_; unfold bd at h9_7; have h9_8 := bx2_; unfold bd at h9_8; have h9_9 := bx_217; unfold bd at h9_9; have h9_10 := bx_335; unfold bd at h9_10; have h9_11 := b_365; unfold bd at h9_11; have h9_12 := b_90; unfold bd at h9_12; have h9_13 := bx_96; unfold bd at h9_13; have h9_14 := b_337; unfold bd at h9_14; have h9_15 := b_346; unfold bd at h9_15; have h9_16 := b_348; unfold bd at h9_16; have h9_17 := b_93; unfold bd at h9_17; have h9_18 := b_95; unfold bd at h9_18; have h8_0 := kb_0; unfold bd at h8_0; have h8_1 := kb_1; unfold bd at h8_1; have h8_2 := kb_2; unfold bd at h8_2; have h8_3 := kb_m1; unfold bd at h8_3; omega) (g.fcts [4, 0, 5] rfl)) (cwV 2 hts (gV_ t_2752 t_2754 t_172 t_198 t_2755) rfl rfl rfl (by decide +kernel) ⟨(show N + 980 + 1 ≤ N + 1 + 980 by omega), (show 8 + (15 + 11) + (60 * N + 39317) ≤ 60 * (N + 1) + 39317 by omega)⟩) (pre3VA g hK hAm ma0_ ka0_ (by decide) (q := (RX14, TX14, 67)) rfl) rfl rfl hl.1 rfl (lv_room (Nat.le_of_ble_eq_true rfl)) dX14_goOver_371 ⟨(Nat.le_of_ble_eq_true rfl), (Nat.le_of_ble_eq_true rfl)⟩) g hK (by decide) (by decide) (fx' := [(12, 19, q0_, .ref a_97), (12, 14, q0_, .ref a_91), (12, 15, q0_, .ref a_43), (14, 1, a0_, .ref q0_)]) rfl (fun r_366 fr_366 H locs hp hMr_366 g => ?_)
                                    obtain ⟨hG_367, hG_368, hx_369, h_370, -⟩ := hp
                                    have hG_371 := isV.frame hMr_366 go_.2.2.2.1 mq0_ kq0_ (by decide) (by decide) hG_361
                                    have hG_372 := mOK.frame hMr_366 go_.2.2.2.1 mq0_ kq0_ (by decide) (by decide) hG_362
                                    obtain ⟨R_373, hR_374, hp_375, hr_376⟩ := hx_369
                                    have hpf_377 := ((hp240.tr hx_357.2 (Int.le_refl _) (Int.le_refl _)).tr hp_375 (by have h9_0 := b_343; unfold bd at h9_0; have h9_1 := b_32; unfold bd at h9_1; have h9_2 := h_211; unfold bd at h9_2; have h9_3 := h_329; unfold bd at h9_3; have h9_4 := h_370; unfold bd at h9_4; have h9_5 := b_89; unfold bd at h9_5; have h9_6 := b_342; unfold bd at h9_6; have h9_7 := b_353; unfold bd at h9_7; have h9_8 := bx1_; unfold bd at h9_8; have h9_9 := bx2_; unfold bd at h9_9; have h9_10 := bx_217; unfold bd at h9_10; have h9_11 := bx_335; unfold bd at h9_11; have h9_12 := b_365; unfold bd at h9_12; have h9_13 := b_90; unfold bd at h9_13; have h9_14 := bx_96; unfold bd at h9_14; have h9_15 := b_337; unfold bd at h9_15; have h9_16 := b_346; unfold bd at h9_16; have h9_17 := b_348; unfold bd at h9_17; have h9_18 := b_93; unfold bd at h9_18; have h9_19 := b_95; unfold bd at h9_19; have h8_0 := kb_0; unfold bd at h8_0; have h8_1 := kb_1; unfold bd at h8_1; have h8_2 := kb_2; unfold bd at h8_2; have h8_3 := kb_m1; unfold bd at h8_3; omega) (by have h9_0 := b_343; unfold bd at h9_0; have h9_1 := b_32; unfold bd at h9_1; have h9_2 := h_211; unfold bd at h9_2; have h9_3 := h_329; unfold bd at h9_3; have h9_4 := h_370; unfold bd at h9_4; have h9_5 := b_89; unfold bd at h9_5; have h9_6 := b_342; unfold bd at h9_6; have h9_7 := b_353; unfold bd at h9_7; have h9_8 := bx1_; unfold bd at h9_8; have h9_9 := bx2_; unfold bd at h9_9; have h9_10 := bx_217; unfold bd at h9_10; have h9_11 := bx_335; unfold bd at h9_11; have h9_12 := b_365; unfold bd at h9_12; have h9_13 := b_90; unfold bd at h9_13; have h9_14 := bx_96; unfold bd at h9_14; have h9_15 := b_337; unfold bd at h9_15; have h9_16 := b_346; unfold bd at h9_16; have h9_17 := b_348; unfold bd at h9_17; have h9_18 := b_93; unfold bd at h9_18; have h9_19 := b_95; unfold bd at h9_19; have h8_0 := kb_0; unfold bd at h8_0; have h8_1 := kb_1; unfold bd at h8_1; have h8_2 := kb_2; unfold bd at h8_2; have h8_3 := kb_m1; unfold bd at h8_3; omega))
                                    refine lv_if_eq (tgt := 379) hx hb dX14_goOver_374 (by decide) (fun c_378 => ?_) (fun c_378 => ?_)
                                    · have fc_378 := eq_f c_378
                                      have b_379 : bd 0 0 r_366 := eqX fc_378 h_370 kb_0 (by decide)
                                      refine lv_aload_n hx hb dX14_goOver_379 rfl (lv_at hl 12 rfl) ?_
                                      refine lv_iload_n hx hb dX14_goOver_380 rfl (lv_at hl 11 rfl) ?_
                                      have go_ := g
                                      refine g_put (C := RX14) (T := TX14) (N := 67) hx hb hts (mc_ inX14) tyX14 tyX14_ok nmX14 hown hK g ma0_ ka0_ (by decide) rfl 51 (by decide) (hts _ (List.mem_cons_of_mem _ t_2197)) (fun _ h9 => h9) rfl rfl (okV_i (bd_sub b_32 (by decide))) rfl rfl (by decide) (Or.inr (Or.inl (by decide))) (fx' := [(12, 19, q0_, .ref a_97), (12, 14, q0_, .ref a_91), (12, 15, q0_, .ref a_43), (14, 1, a0_, .ref q0_)]) rfl dX14_goOver_381 (fun f H locs hM_380 g => ?_)
                                      have hG_381 := isV.frame hM_380 go_.2.2.2.1 mq0_ kq0_ (by decide) (by decide) hG_371
                                      have hG_382 := mOK.frame hM_380 go_.2.2.2.1 mq0_ kq0_ (by decide) (by decide) hG_372
                                      have hG_383 := tOK.frame hM_380 go_.2.2.2.1 ma0_ ka0_ (by decide) (by decide) hG_368
                                      have hG_384 := oOK.frame hM_380 go_.2.2.2.1 ma0_ ka0_ (by decide) (by decide) hG_367
                                      have hG_385 := isW.frame hM_380 go_.2.2.2.1 ma0_ ka0_ (by decide) (by decide) hR_374
                                      refine lv_aload_n hx hb dX14_goOver_384 rfl (lv_at hl 12 rfl) ?_
                                      refine lv_iload hx hb dX14_goOver_385 (lv_at hl 10 rfl) ?_
                                      have go_ := g
                                      refine g_put (C := RX14) (T := TX14) (N := 67) hx hb hts (mc_ inX14) tyX14 tyX14_ok nmX14 hown hK g ma0_ ka0_ (by decide) rfl 52 (by decide) (hts _ (List.mem_cons_of_mem _ t_2198)) (fun _ h9 => h9) rfl rfl (okV_i (bd_sub b_343 (by decide))) rfl rfl (by decide) (Or.inr (Or.inl (by decide))) (fx' := [(14, 51, a0_, .int r_), (12, 19, q0_, .ref a_97), (12, 14, q0_, .ref a_91), (12, 15, q0_, .ref a_43), (14, 1, a0_, .ref q0_)]) rfl dX14_goOver_387 (fun f H locs hM_386 g => ?_)
                                      have hG_387 := isV.frame hM_386 go_.2.2.2.1 mq0_ kq0_ (by decide) (by decide) hG_381
                                      have hG_388 := mOK.frame hM_386 go_.2.2.2.1 mq0_ kq0_ (by decide) (by decide) hG_382
                                      have hG_389 := tOK.frame hM_386 go_.2.2.2.1 ma0_ ka0_ (by decide) (by decide) hG_383
                                      have hG_390 := oOK.frame hM_386 go_.2.2.2.1 ma0_ ka0_ (by decide) (by decide) hG_384
                                      have hG_391 := isW.frame hM_386 go_.2.2.2.1 ma0_ ka0_ (by decide) (by decide) hG_385
                                      obtain ⟨y_392, ey_392⟩ : ∃ z : Int32, z = v240_11 + 1 := ⟨_, rfl⟩
                                      refine lv_iinc (v := y_392) (lv' := [(11, .int y_392), (14, .int j354_14), (13, .int j354_13), (12, .int j354_12), (10, .int v230_10), (9, .int 1), (8, .int r_328), (7, .int r_210), (6, .int x_96), (5, .int v116_5), (4, .int k_), (3, .int r_), (0, .ref a0_), (1, .int x1_), (2, .int x2_)]) hx hb dX14_goOver_390 hl (k := 3) rfl (by rw [ey_392]; rfl) (by decide) rfl (fun ls hl => ?_)
                                      have ty_392 := add_bd ey_392 b_353 kb_1 (by decide)
                                      have b_393 : bd 1 9 y_392 := add_rg ty_392 b_353 kb_1 (by decide)
                                      refine lv_goto (tgt := 240) hx hb dX14_goOver_393 (by decide) ?_
                                      have hl9 := lv_sub hl [0, 4, 5, 6, 7, 8, 9, 10, 11, 12, 13, 14] (by rfl : lv_pick [(11, .int y_392), (14, .int j354_14), (13, .int j354_13), (12, .int j354_12), (10, .int v230_10), (9, .int 1), (8, .int r_328), (7, .int r_210), (6, .int x_96), (5, .int v116_5), (4, .int k_), (3, .int r_), (0, .ref a0_), (1, .int x1_), (2, .int x2_)] [0, 4, 5, 6, 7, 8, 9, 10, 11, 12, 13, 14] = [(11, .int y_392), (10, .int v230_10), (9, .int 1), (8, .int r_328), (7, .int r_210), (6, .int x_96), (5, .int v116_5), (4, .int k_), (3, .int r_), (0, .ref a0_), (1, .int x1_), (2, .int x2_)])
                                      have g9 := g.sub (fx' := [(12, 19, q0_, .ref a_97), (12, 14, q0_, .ref a_91), (12, 15, q0_, .ref a_43), (14, 1, a0_, .ref q0_), (14, 51, a0_, .int r_), (14, 52, a0_, .int k_)]) [2, 3, 4, 5, 1, 0] rfl
                                      exact ih240  y_392 (bd_sub b_393 (by decide)) (by have h9_0 := b_393; unfold bd at h9_0; have h9_1 := bv240_11; unfold bd at h9_1; have h9_2 := kb_0; unfold bd at h9_2; have h9_3 := kb_1; unfold bd at h9_3; have h9_4 := kb_2; unfold bd at h9_4; have h9_5 := kb_m1; unfold bd at h9_5; omega) _ _ _ _ g9 hG_387 hG_388 hG_389 hG_390 ⟨_, hG_391, (hrw.keep br_.1 hpf_377), hpf_377⟩ hl9
                                    · have fc_378 := neq_f c_378
                                      have b_394 : bd 1 1 r_366 := neX fc_378 h_370 kb_0 (by decide)
                                      refine lv_iconst (v := 1) hx hb dX14_goOver_377 (by decide) ?_
                                      subst hQ
                                      exact W.zret (v := 1) hx hb hr (nar_z (bd_sub kb_1 (by decide) : bd 0 1 _).1 (bd_sub kb_1 (by decide) : bd 0 1 _).2) (fun t ht hW => ⟨⟨_, _, rfl, ⟨hG_367, hG_368, ⟨_, hR_374, hpf_377, hr_376⟩, (bd_sub kb_1 (by decide)), trivial⟩, q3_of g hK ht hW⟩, g.2.2.1.F ht⟩) g.2.2.1.2.2 dX14_goOver_378
                                  refine lv_aload_n hx hb dX14_goOver_253 rfl (lv_at hl 9 rfl) ?_
                                  refine g_getk (C := RX14) (T := TX14) (N := 67) hx hb hts (mc_ inX14) hown hK g rfl 1 (by decide) rfl (hts _ (List.mem_cons_of_mem _ t_2147)) (fun _ h9 => h9) 3 rfl dX14_goOver_254 ?_
                                  refine g_getk (C := RX12) (T := TX12) (N := 60) hx hb hts (mc_ inX12) hown hK g rfl 19 (by decide) rfl (hts _ (List.mem_cons_of_mem _ t_1944)) (fun _ h9 => h9) 0 rfl dX14_goOver_257 ?_
                                  refine lv_iload hx hb dX14_goOver_260 (lv_at hl 5 rfl) ?_
                                  refine g_iald hx hb hK g ma_97 ka_97 (by decide) rfl (in_bd bx_96 (by decide)) dX14_goOver_262 (fun x_395 bx_395 cx_395 => ?_)
                                  have vx_395 : x_395 = V_.i 19 x_96.toNatClampNeg := hG240_V_q0_.at g 0 rfl rfl cx_395
                                  refine lv_if_le (tgt := 284) hx hb dX14_goOver_263 (by decide) (fun c_396 => ?_) (fun c_396 => ?_)
                                  · have fc_396 := le_f c_396
                                    have b_397 : bd 0 0 x_395 := leL fc_396 bx_395 kb_0 (by decide)
                                    refine lv_iconst (v := 0) hx hb dX14_goOver_284 (by decide) ?_
                                    refine lv_istore (lv' := [(12, .int 0), (11, .int v240_11), (10, .int v230_10), (9, .int 1), (8, .int r_328), (7, .int r_210), (6, .int x_96), (5, .int v116_5), (4, .int k_), (3, .int r_), (0, .ref a0_), (1, .int x1_), (2, .int x2_)]) hx hb dX14_goOver_285 hl (by decide) rfl (fun ls hl => ?_)
                                    refine lv_aload_n hx hb dX14_goOver_287 rfl (lv_at hl 10 rfl) ?_
                                    refine g_getk (C := RX14) (T := TX14) (N := 67) hx hb hts (mc_ inX14) hown hK g rfl 1 (by decide) rfl (hts _ (List.mem_cons_of_mem _ t_2147)) (fun _ h9 => h9) 3 rfl dX14_goOver_288 ?_
                                    refine g_getk (C := RX12) (T := TX12) (N := 60) hx hb hts (mc_ inX12) hown hK g rfl 19 (by decide) rfl (hts _ (List.mem_cons_of_mem _ t_1944)) (fun _ h9 => h9) 0 rfl dX14_goOver_291 ?_
                                    refine lv_iload hx hb dX14_goOver_294 (lv_at hl 6 rfl) ?_
                                    refine g_iald hx hb hK g ma_97 ka_97 (by decide) rfl (in_bd bx_96 (by decide)) dX14_goOver_296 (fun x_398 bx_398 cx_398 => ?_)
                                    obtain rfl : x_395 = x_398 := el_same cx_395 cx_398 rfl
                                    refine lv_iconst (v := 1) hx hb dX14_goOver_297 (by decide) ?_
                                    refine lv_icmp_le (tgt := 319) hx hb dX14_goOver_298 (by decide) (fun c_399 => ?_) (fun c_399 => ?_)
                                    · have fc_399 := le_f c_399
                                      refine lv_iconst (v := 0) hx hb dX14_goOver_319 (by decide) ?_
                                      refine lv_istore (lv' := [(13, .int 0), (12, .int 0), (11, .int v240_11), (10, .int v230_10), (9, .int 1), (8, .int r_328), (7, .int r_210), (6, .int x_96), (5, .int v116_5), (4, .int k_), (3, .int r_), (0, .ref a0_), (1, .int x1_), (2, .int x2_)]) hx hb dX14_goOver_320 hl (by decide) rfl (fun ls hl => ?_)
                                      refine lv_aload_n hx hb dX14_goOver_322 rfl (lv_at hl 11 rfl) ?_
                                      refine g_getk (C := RX14) (T := TX14) (N := 67) hx hb hts (mc_ inX14) hown hK g rfl 1 (by decide) rfl (hts _ (List.mem_cons_of_mem _ t_2147)) (fun _ h9 => h9) 3 rfl dX14_goOver_323 ?_
                                      refine g_getk (C := RX12) (T := TX12) (N := 60) hx hb hts (mc_ inX12) hown hK g rfl 19 (by decide) rfl (hts _ (List.mem_cons_of_mem _ t_1944)) (fun _ h9 => h9) 0 rfl dX14_goOver_326 ?_
                                      refine lv_iload hx hb dX14_goOver_329 (lv_at hl 7 rfl) ?_
                                      refine g_iald hx hb hK g ma_97 ka_97 (by decide) rfl (in_bd bx_96 (by decide)) dX14_goOver_331 (fun x_400 bx_400 cx_400 => ?_)
                                      obtain rfl : x_395 = x_400 := el_same cx_395 cx_400 rfl
                                      refine lv_iconst (v := 2) hx hb dX14_goOver_332 (by decide) ?_
                                      refine lv_icmp_le (tgt := 351) hx hb dX14_goOver_333 (by decide) (fun c_401 => ?_) (fun c_401 => ?_)
                                      · have fc_401 := le_f c_401
                                        refine lv_iconst (v := 0) hx hb dX14_goOver_351 (by decide) ?_
                                        refine lv_istore (lv' := [(14, .int 0), (13, .int 0), (12, .int 0), (11, .int v240_11), (10, .int v230_10), (9, .int 1), (8, .int r_328), (7, .int r_210), (6, .int x_96), (5, .int v116_5), (4, .int k_), (3, .int r_), (0, .ref a0_), (1, .int x1_), (2, .int x2_)]) hx hb dX14_goOver_352 hl (by decide) rfl (fun ls hl => ?_)
                                        have hl9 := lv_sub hl [0, 1, 2, 3, 4, 5, 6, 7, 8, 9, 10, 11, 12, 13, 14] (by rfl : lv_pick [(14, .int 0), (13, .int 0), (12, .int 0), (11, .int v240_11), (10, .int v230_10), (9, .int 1), (8, .int r_328), (7, .int r_210), (6, .int x_96), (5, .int v116_5), (4, .int k_), (3, .int r_), (0, .ref a0_), (1, .int x1_), (2, .int x2_)] [0, 1, 2, 3, 4, 5, 6, 7, 8, 9, 10, 11, 12, 13, 14] = [(14, .int 0), (13, .int 0), (12, .int 0), (11, .int v240_11), (10, .int v230_10), (9, .int 1), (8, .int r_328), (7, .int r_210), (6, .int x_96), (5, .int v116_5), (4, .int k_), (3, .int r_), (0, .ref a0_), (1, .int x1_), (2, .int x2_)])
                                        have g9 := g.sub (fx' := [(12, 19, q0_, .ref a_97), (12, 14, q0_, .ref a_91), (12, 15, q0_, .ref a_43), (14, 1, a0_, .ref q0_), (14, 51, a0_, .int r_), (14, 52, a0_, .int k_)]) [0, 1, 2, 3, 4, 5] rfl
                                        exact join_354 0 0 0 _ _ _ _  g9 hG240_V_q0_ hG240_m_q0_ hG240_t_a0_ hG240_o_a0_ hW240 hl9
                                      · have fc_401 := nle_f c_401
                                        have b_402 : bd 2 (-1) (2 : Int32) := ltL fc_401 kb_2 b_397 (by decide)
                                        exact bd_no (eqX rfl b_402 kb_2 (lo := 2) (hi := (-1)) (by decide)) (by decide)
                                    · have fc_399 := nle_f c_399
                                      have b_403 : bd 1 (-1) (1 : Int32) := ltL fc_399 kb_1 b_397 (by decide)
                                      exact bd_no (eqX rfl b_403 kb_1 (lo := 1) (hi := (-1)) (by decide)) (by decide)
                                  · have fc_396 := nle_f c_396
                                    have b_404 : bd 1 3 x_395 := ltR fc_396 kb_0 bx_395 (by decide)
                                    refine lv_aload_n hx hb dX14_goOver_266 rfl (lv_at hl 9 rfl) ?_
                                    refine lv_iload hx hb dX14_goOver_267 (lv_at hl 5 rfl) ?_
                                    refine lv_iconst (v := 0) hx hb dX14_goOver_269 (by decide) ?_
                                    refine lv_iload hx hb dX14_goOver_270 (lv_at hl 0 rfl) ?_
                                    refine lv_iload hx hb dX14_goOver_272 (lv_at hl 3 rfl) ?_
                                    refine lv_iload hx hb dX14_goOver_274 (lv_at hl 2 rfl) ?_
                                    refine lv_imul hx hb dX14_goOver_276 ?_
                                    refine lv_topi (fun y_405 ey_405 => ?_)
                                    have ty_405 := mulc_bd ey_405 (c := 1) (by decide) h_329 (by decide)
                                    have b_406 : bd 1 3 y_405 := mulc_rg ty_405 h_329 (by decide)
                                    refine lv_idiv hx hb dX14_goOver_277 (nz_bd b_406 (Or.inl (by decide))) ?_
                                    refine lv_topi (fun y_407 ey_407 => ?_)
                                    have b_408 : bd 0 8 y_407 := div_rg2 ey_407 b_353 b_406 (by decide)
                                    have go_ := g
                                    refine g_calli (va_runV (As := [.int x_96, .int 0, .int y_407]) (rest := []) ⟨hx, hb, hml, hown, hts⟩ (r_X14_valueOf_12 l dC dI L kd tys f H.size g.2.2.2.1 a0_ ma0_ ka0_ x_96 bx_96 0 kb_0 y_407 b_408 r_ b_32 k_ b_343 (g.fcts [4, 5] rfl)) (cwV 3 hts (gV_ t_2764 t_2766 t_175 t_198 t_2767) rfl rfl rfl (by decide +kernel) ⟨(show 0 + 1 ≤ N + 1 + 980 by omega), (show 8 + (6 + 11) + 0 ≤ 60 * (N + 1) + 39317 by omega)⟩) (pre3V g hK ma0_ ka0_ (by decide) (q := (RX14, TX14, 67)) rfl) rfl rfl hl.1 rfl (lv_room (Nat.le_of_ble_eq_true rfl)) dX14_goOver_278 ⟨(Nat.le_of_ble_eq_true rfl), (Nat.le_of_ble_eq_true rfl)⟩) g hK (by decide) (by decide) (fx' := [(12, 19, q0_, .ref a_97), (12, 14, q0_, .ref a_91), (12, 15, q0_, .ref a_43), (14, 1, a0_, .ref q0_), (14, 51, a0_, .int r_), (14, 52, a0_, .int k_)]) rfl (fun r_409 fr_409 H locs hp hMr_409 g => ?_)
                                    have hG_410 := isV.frame hMr_409 go_.2.2.2.1 mq0_ kq0_ (by decide) (by decide) hG240_V_q0_
                                    have hG_411 := mOK.frame hMr_409 go_.2.2.2.1 mq0_ kq0_ (by decide) (by decide) hG240_m_q0_
                                    have hG_412 := tOK.frame hMr_409 go_.2.2.2.1 ma0_ ka0_ (by decide) (by decide) hG240_t_a0_
                                    have hG_413 := oOK.frame hMr_409 go_.2.2.2.1 ma0_ ka0_ (by decide) (by decide) hG240_o_a0_
                                    have hG_414 := isW.frame hMr_409 go_.2.2.2.1 ma0_ ka0_ (by decide) (by decide) hW240
                                    refine lv_goto (tgt := 285) hx hb dX14_goOver_281 (by decide) ?_
                                    refine lv_istore (lv' := [(12, .int r_409), (11, .int v240_11), (10, .int v230_10), (9, .int 1), (8, .int r_328), (7, .int r_210), (6, .int x_96), (5, .int v116_5), (4, .int k_), (3, .int r_), (0, .ref a0_), (1, .int x1_), (2, .int x2_)]) hx hb dX14_goOver_285 hl (by decide) rfl (fun ls hl => ?_)
                                    refine lv_aload_n hx hb dX14_goOver_287 rfl (lv_at hl 10 rfl) ?_
                                    refine g_getk (C := RX14) (T := TX14) (N := 67) hx hb hts (mc_ inX14) hown hK g rfl 1 (by decide) rfl (hts _ (List.mem_cons_of_mem _ t_2147)) (fun _ h9 => h9) 3 rfl dX14_goOver_288 ?_
                                    refine g_getk (C := RX12) (T := TX12) (N := 60) hx hb hts (mc_ inX12) hown hK g rfl 19 (by decide) rfl (hts _ (List.mem_cons_of_mem _ t_1944)) (fun _ h9 => h9) 0 rfl dX14_goOver_291 ?_
                                    refine lv_iload hx hb dX14_goOver_294 (lv_at hl 6 rfl) ?_
                                    refine g_iald hx hb hK g ma_97 ka_97 (by decide) rfl (in_bd bx_96 (by decide)) dX14_goOver_296 (fun x_415 bx_415 cx_415 => ?_)
                                    obtain rfl : x_395 = x_415 := el_same cx_395 cx_415 (arr_eq hMr_409 ma_97 ka_97 (by decide) rfl)
                                    refine lv_iconst (v := 1) hx hb dX14_goOver_297 (by decide) ?_
                                    refine lv_icmp_le (tgt := 319) hx hb dX14_goOver_298 (by decide) (fun c_416 => ?_) (fun c_416 => ?_)
                                    · have fc_416 := le_f c_416
                                      have b_417 : bd 1 1 x_395 := leL fc_416 b_404 kb_1 (by decide)
                                      refine lv_iconst (v := 0) hx hb dX14_goOver_319 (by decide) ?_
                                      refine lv_istore (lv' := [(13, .int 0), (12, .int r_409), (11, .int v240_11), (10, .int v230_10), (9, .int 1), (8, .int r_328), (7, .int r_210), (6, .int x_96), (5, .int v116_5), (4, .int k_), (3, .int r_), (0, .ref a0_), (1, .int x1_), (2, .int x2_)]) hx hb dX14_goOver_320 hl (by decide) rfl (fun ls hl => ?_)
                                      refine lv_aload_n hx hb dX14_goOver_322 rfl (lv_at hl 11 rfl) ?_
                                      refine g_getk (C := RX14) (T := TX14) (N := 67) hx hb hts (mc_ inX14) hown hK g rfl 1 (by decide) rfl (hts _ (List.mem_cons_of_mem _ t_2147)) (fun _ h9 => h9) 3 rfl dX14_goOver_323 ?_
                                      refine g_getk (C := RX12) (T := TX12) (N := 60) hx hb hts (mc_ inX12) hown hK g rfl 19 (by decide) rfl (hts _ (List.mem_cons_of_mem _ t_1944)) (fun _ h9 => h9) 0 rfl dX14_goOver_326 ?_
                                      refine lv_iload hx hb dX14_goOver_329 (lv_at hl 7 rfl) ?_
                                      refine g_iald hx hb hK g ma_97 ka_97 (by decide) rfl (in_bd bx_96 (by decide)) dX14_goOver_331 (fun x_418 bx_418 cx_418 => ?_)
                                      obtain rfl : x_395 = x_418 := el_same cx_395 cx_418 (arr_eq hMr_409 ma_97 ka_97 (by decide) rfl)
                                      refine lv_iconst (v := 2) hx hb dX14_goOver_332 (by decide) ?_
                                      refine lv_icmp_le (tgt := 351) hx hb dX14_goOver_333 (by decide) (fun c_419 => ?_) (fun c_419 => ?_)
                                      · have fc_419 := le_f c_419
                                        refine lv_iconst (v := 0) hx hb dX14_goOver_351 (by decide) ?_
                                        refine lv_istore (lv' := [(14, .int 0), (13, .int 0), (12, .int r_409), (11, .int v240_11), (10, .int v230_10), (9, .int 1), (8, .int r_328), (7, .int r_210), (6, .int x_96), (5, .int v116_5), (4, .int k_), (3, .int r_), (0, .ref a0_), (1, .int x1_), (2, .int x2_)]) hx hb dX14_goOver_352 hl (by decide) rfl (fun ls hl => ?_)
                                        have hl9 := lv_sub hl [0, 1, 2, 3, 4, 5, 6, 7, 8, 9, 10, 11, 12, 13, 14] (by rfl : lv_pick [(14, .int 0), (13, .int 0), (12, .int r_409), (11, .int v240_11), (10, .int v230_10), (9, .int 1), (8, .int r_328), (7, .int r_210), (6, .int x_96), (5, .int v116_5), (4, .int k_), (3, .int r_), (0, .ref a0_), (1, .int x1_), (2, .int x2_)] [0, 1, 2, 3, 4, 5, 6, 7, 8, 9, 10, 11, 12, 13, 14] = [(14, .int 0), (13, .int 0), (12, .int r_409), (11, .int v240_11), (10, .int v230_10), (9, .int 1), (8, .int r_328), (7, .int r_210), (6, .int x_96), (5, .int v116_5), (4, .int k_), (3, .int r_), (0, .ref a0_), (1, .int x1_), (2, .int x2_)])
                                        have g9 := g.sub (fx' := [(12, 19, q0_, .ref a_97), (12, 14, q0_, .ref a_91), (12, 15, q0_, .ref a_43), (14, 1, a0_, .ref q0_), (14, 51, a0_, .int r_), (14, 52, a0_, .int k_)]) [0, 1, 2, 3, 4, 5] rfl
                                        exact join_354 0 0 r_409 _ _ _ _  g9 hG_410 hG_411 hG_412 hG_413 hG_414 hl9
                                      · have fc_419 := nle_f c_419
                                        have b_420 : bd 2 0 (2 : Int32) := ltL fc_419 kb_2 b_417 (by decide)
                                        exact bd_no (eqX rfl b_420 kb_2 (lo := 2) (hi := 0) (by decide)) (by decide)
                                    · have fc_416 := nle_f c_416
                                      have b_421 : bd 2 3 x_395 := ltR fc_416 kb_1 b_404 (by decide)
                                      refine lv_aload_n hx hb dX14_goOver_301 rfl (lv_at hl 10 rfl) ?_
                                      refine lv_iload hx hb dX14_goOver_302 (lv_at hl 6 rfl) ?_
                                      refine lv_iconst (v := 1) hx hb dX14_goOver_304 (by decide) ?_
                                      refine lv_iload hx hb dX14_goOver_305 (lv_at hl 1 rfl) ?_
                                      refine lv_iload hx hb dX14_goOver_307 (lv_at hl 3 rfl) ?_
                                      refine lv_idiv hx hb dX14_goOver_309 (by decide) ?_
                                      refine lv_topi (fun y_422 ey_422 => ?_)
                                      have b_423 : bd 0 8 y_422 := div_rg ey_422 b_353 kb_1 (by decide)
                                      refine lv_iload hx hb dX14_goOver_310 (lv_at hl 4 rfl) ?_
                                      refine lv_irem hx hb dX14_goOver_312 (nz_bd h_329 (Or.inl (by decide))) ?_
                                      refine lv_topi (fun y_424 ey_424 => ?_)
                                      have b_425 : bd 0 2 y_424 := rem_rg ey_424 b_423 h_329 (by decide)
                                      have go_ := g
                                      refine g_calli (va_runV (As := [.int x_96, .int 1, .int y_424]) (rest := []) ⟨hx, hb, hml, hown, hts⟩ (r_X14_valueOf_10 l dC dI L kd tys fr_409 H.size g.2.2.2.1 a0_ ma0_ ka0_ x_96 bx_96 1 kb_1 y_424 b_425 r_ b_32 k_ b_343 (g.fcts [4, 5] rfl)) (cwV 3 hts (gV_ t_2764 t_2766 t_175 t_198 t_2767) rfl rfl rfl (by decide +kernel) ⟨(show 0 + 1 ≤ N + 1 + 980 by omega), (show 8 + (6 + 11) + 0 ≤ 60 * (N + 1) + 39317 by omega)⟩) (pre3V g hK ma0_ ka0_ (by decide) (q := (RX14, TX14, 67)) rfl) rfl rfl hl.1 rfl (lv_room (Nat.le_of_ble_eq_true rfl)) dX14_goOver_313 ⟨(Nat.le_of_ble_eq_true rfl), (Nat.le_of_ble_eq_true rfl)⟩) g hK (by decide) (by decide) (fx' := [(12, 19, q0_, .ref a_97), (12, 14, q0_, .ref a_91), (12, 15, q0_, .ref a_43), (14, 1, a0_, .ref q0_), (14, 51, a0_, .int r_), (14, 52, a0_, .int k_)]) rfl (fun r_426 fr_426 H locs hp hMr_426 g => ?_)
                                      have hG_427 := isV.frame hMr_426 go_.2.2.2.1 mq0_ kq0_ (by decide) (by decide) hG_410
                                      have hG_428 := mOK.frame hMr_426 go_.2.2.2.1 mq0_ kq0_ (by decide) (by decide) hG_411
                                      have hG_429 := tOK.frame hMr_426 go_.2.2.2.1 ma0_ ka0_ (by decide) (by decide) hG_412
                                      have hG_430 := oOK.frame hMr_426 go_.2.2.2.1 ma0_ ka0_ (by decide) (by decide) hG_413
                                      have hG_431 := isW.frame hMr_426 go_.2.2.2.1 ma0_ ka0_ (by decide) (by decide) hG_414
                                      refine lv_goto (tgt := 320) hx hb dX14_goOver_316 (by decide) ?_
                                      refine lv_istore (lv' := [(13, .int r_426), (12, .int r_409), (11, .int v240_11), (10, .int v230_10), (9, .int 1), (8, .int r_328), (7, .int r_210), (6, .int x_96), (5, .int v116_5), (4, .int k_), (3, .int r_), (0, .ref a0_), (1, .int x1_), (2, .int x2_)]) hx hb dX14_goOver_320 hl (by decide) rfl (fun ls hl => ?_)
                                      refine lv_aload_n hx hb dX14_goOver_322 rfl (lv_at hl 11 rfl) ?_
                                      refine g_getk (C := RX14) (T := TX14) (N := 67) hx hb hts (mc_ inX14) hown hK g rfl 1 (by decide) rfl (hts _ (List.mem_cons_of_mem _ t_2147)) (fun _ h9 => h9) 3 rfl dX14_goOver_323 ?_
                                      refine g_getk (C := RX12) (T := TX12) (N := 60) hx hb hts (mc_ inX12) hown hK g rfl 19 (by decide) rfl (hts _ (List.mem_cons_of_mem _ t_1944)) (fun _ h9 => h9) 0 rfl dX14_goOver_326 ?_
                                      refine lv_iload hx hb dX14_goOver_329 (lv_at hl 7 rfl) ?_
                                      refine g_iald hx hb hK g ma_97 ka_97 (by decide) rfl (in_bd bx_96 (by decide)) dX14_goOver_331 (fun x_432 bx_432 cx_432 => ?_)
                                      obtain rfl : x_395 = x_432 := el_same cx_395 cx_432 ((arr_eq hMr_426 ma_97 ka_97 (by decide) rfl).trans (arr_eq hMr_409 ma_97 ka_97 (by decide) rfl))
                                      refine lv_iconst (v := 2) hx hb dX14_goOver_332 (by decide) ?_
                                      refine lv_icmp_le (tgt := 351) hx hb dX14_goOver_333 (by decide) (fun c_433 => ?_) (fun c_433 => ?_)
                                      · have fc_433 := le_f c_433
                                        have b_434 : bd 2 2 x_395 := leL fc_433 b_421 kb_2 (by decide)
                                        refine lv_iconst (v := 0) hx hb dX14_goOver_351 (by decide) ?_
                                        refine lv_istore (lv' := [(14, .int 0), (13, .int r_426), (12, .int r_409), (11, .int v240_11), (10, .int v230_10), (9, .int 1), (8, .int r_328), (7, .int r_210), (6, .int x_96), (5, .int v116_5), (4, .int k_), (3, .int r_), (0, .ref a0_), (1, .int x1_), (2, .int x2_)]) hx hb dX14_goOver_352 hl (by decide) rfl (fun ls hl => ?_)
                                        have hl9 := lv_sub hl [0, 1, 2, 3, 4, 5, 6, 7, 8, 9, 10, 11, 12, 13, 14] (by rfl : lv_pick [(14, .int 0), (13, .int r_426), (12, .int r_409), (11, .int v240_11), (10, .int v230_10), (9, .int 1), (8, .int r_328), (7, .int r_210), (6, .int x_96), (5, .int v116_5), (4, .int k_), (3, .int r_), (0, .ref a0_), (1, .int x1_), (2, .int x2_)] [0, 1, 2, 3, 4, 5, 6, 7, 8, 9, 10, 11, 12, 13, 14] = [(14, .int 0), (13, .int r_426), (12, .int r_409), (11, .int v240_11), (10, .int v230_10), (9, .int 1), (8, .int r_328), (7, .int r_210), (6, .int x_96), (5, .int v116_5), (4, .int k_), (3, .int r_), (0, .ref a0_), (1, .int x1_), (2, .int x2_)])
                                        have g9 := g.sub (fx' := [(12, 19, q0_, .ref a_97), (12, 14, q0_, .ref a_91), (12, 15, q0_, .ref a_43), (14, 1, a0_, .ref q0_), (14, 51, a0_, .int r_), (14, 52, a0_, .int k_)]) [0, 1, 2, 3, 4, 5] rfl
                                        exact join_354 0 r_426 r_409 _ _ _ _  g9 hG_427 hG_428 hG_429 hG_430 hG_431 hl9
                                      · have fc_433 := nle_f c_433
                                        have b_435 : bd 3 3 x_395 := ltR fc_433 kb_2 b_421 (by decide)
                                        refine lv_aload_n hx hb dX14_goOver_336 rfl (lv_at hl 11 rfl) ?_
                                        refine lv_iload hx hb dX14_goOver_337 (lv_at hl 7 rfl) ?_
                                        refine lv_iconst (v := 2) hx hb dX14_goOver_339 (by decide) ?_
                                        refine lv_iload hx hb dX14_goOver_340 (lv_at hl 2 rfl) ?_
                                        refine lv_iload hx hb dX14_goOver_342 (lv_at hl 4 rfl) ?_
                                        refine lv_irem hx hb dX14_goOver_344 (by decide) ?_
                                        refine lv_topi (fun y_436 ey_436 => ?_)
                                        have b_437 : bd 0 0 y_436 := rem_rg ey_436 b_353 kb_1 (by decide)
                                        have go_ := g
                                        refine g_calli (va_runV (As := [.int x_96, .int 2, .int y_436]) (rest := []) ⟨hx, hb, hml, hown, hts⟩ (r_X14_valueOf_6 l dC dI L kd tys fr_426 H.size g.2.2.2.1 a0_ ma0_ ka0_ x_96 bx_96 2 kb_2 y_436 b_437 r_ b_32 k_ b_343 (g.fcts [4, 5] rfl)) (cwV 3 hts (gV_ t_2764 t_2766 t_175 t_198 t_2767) rfl rfl rfl (by decide +kernel) ⟨(show 0 + 1 ≤ N + 1 + 980 by omega), (show 8 + (6 + 11) + 0 ≤ 60 * (N + 1) + 39317 by omega)⟩) (pre3V g hK ma0_ ka0_ (by decide) (q := (RX14, TX14, 67)) rfl) rfl rfl hl.1 rfl (lv_room (Nat.le_of_ble_eq_true rfl)) dX14_goOver_345 ⟨(Nat.le_of_ble_eq_true rfl), (Nat.le_of_ble_eq_true rfl)⟩) g hK (by decide) (by decide) (fx' := [(12, 19, q0_, .ref a_97), (12, 14, q0_, .ref a_91), (12, 15, q0_, .ref a_43), (14, 1, a0_, .ref q0_), (14, 51, a0_, .int r_), (14, 52, a0_, .int k_)]) rfl (fun r_438 fr_438 H locs hp hMr_438 g => ?_)
                                        have hG_439 := isV.frame hMr_438 go_.2.2.2.1 mq0_ kq0_ (by decide) (by decide) hG_427
                                        have hG_440 := mOK.frame hMr_438 go_.2.2.2.1 mq0_ kq0_ (by decide) (by decide) hG_428
                                        have hG_441 := tOK.frame hMr_438 go_.2.2.2.1 ma0_ ka0_ (by decide) (by decide) hG_429
                                        have hG_442 := oOK.frame hMr_438 go_.2.2.2.1 ma0_ ka0_ (by decide) (by decide) hG_430
                                        have hG_443 := isW.frame hMr_438 go_.2.2.2.1 ma0_ ka0_ (by decide) (by decide) hG_431
                                        refine lv_goto (tgt := 352) hx hb dX14_goOver_348 (by decide) ?_
                                        refine lv_istore (lv' := [(14, .int r_438), (13, .int r_426), (12, .int r_409), (11, .int v240_11), (10, .int v230_10), (9, .int 1), (8, .int r_328), (7, .int r_210), (6, .int x_96), (5, .int v116_5), (4, .int k_), (3, .int r_), (0, .ref a0_), (1, .int x1_), (2, .int x2_)]) hx hb dX14_goOver_352 hl (by decide) rfl (fun ls hl => ?_)
                                        have hl9 := lv_sub hl [0, 1, 2, 3, 4, 5, 6, 7, 8, 9, 10, 11, 12, 13, 14] (by rfl : lv_pick [(14, .int r_438), (13, .int r_426), (12, .int r_409), (11, .int v240_11), (10, .int v230_10), (9, .int 1), (8, .int r_328), (7, .int r_210), (6, .int x_96), (5, .int v116_5), (4, .int k_), (3, .int r_), (0, .ref a0_), (1, .int x1_), (2, .int x2_)] [0, 1, 2, 3, 4, 5, 6, 7, 8, 9, 10, 11, 12, 13, 14] = [(14, .int r_438), (13, .int r_426), (12, .int r_409), (11, .int v240_11), (10, .int v230_10), (9, .int 1), (8, .int r_328), (7, .int r_210), (6, .int x_96), (5, .int v116_5), (4, .int k_), (3, .int r_), (0, .ref a0_), (1, .int x1_), (2, .int x2_)])
                                        have g9 := g.sub (fx' := [(12, 19, q0_, .ref a_97), (12, 14, q0_, .ref a_91), (12, 15, q0_, .ref a_43), (14, 1, a0_, .ref q0_), (14, 51, a0_, .int r_), (14, 52, a0_, .int k_)]) [0, 1, 2, 3, 4, 5] rfl
                                        exact join_354 r_438 r_426 r_409 _ _ _ _  g9 hG_439 hG_440 hG_441 hG_442 hG_443 hl9
                            have hl9 := lv_sub hl [0, 1, 2, 3, 4, 5, 6, 7, 8, 9, 10, 11] (by rfl : lv_pick [(11, .int 0), (10, .int v230_10), (9, .int 1), (8, .int r_328), (7, .int r_210), (6, .int x_96), (5, .int v116_5), (4, .int k_), (3, .int r_), (0, .ref a0_), (1, .int x1_), (2, .int x2_)] [0, 1, 2, 3, 4, 5, 6, 7, 8, 9, 10, 11] = [(11, .int 0), (10, .int v230_10), (9, .int 1), (8, .int r_328), (7, .int r_210), (6, .int x_96), (5, .int v116_5), (4, .int k_), (3, .int r_), (0, .ref a0_), (1, .int x1_), (2, .int x2_)])
                            have g9 := g.sub (fx' := [(12, 19, q0_, .ref a_97), (12, 14, q0_, .ref a_91), (12, 15, q0_, .ref a_43), (14, 1, a0_, .ref q0_), (14, 51, a0_, .int r_), (14, 52, a0_, .int k_)]) [0, 1, 2, 3, 4, 5] rfl
                            exact loop_344 (21) 0 (bd_sub kb_0 (by decide)) (by have h9_0 := kb_0; unfold bd at h9_0; have h9_1 := kb_1; unfold bd at h9_1; have h9_2 := kb_2; unfold bd at h9_2; have h9_3 := kb_m1; unfold bd at h9_3; omega) _ _ _ _ g9 hG230_V_q0_ hG230_m_q0_ hG230_t_a0_ hG230_o_a0_ ⟨_, hW230, hI230, hp230⟩ hl9
                      have hl9 := lv_sub hl [0, 1, 2, 3, 4, 5, 6, 7, 8, 9, 10] (by rfl : lv_pick [(10, .int 0), (9, .int 1), (8, .int r_328), (7, .int r_210), (6, .int x_96), (5, .int v116_5), (4, .int k_), (3, .int r_), (0, .ref a0_), (1, .int x1_), (2, .int x2_)] [0, 1, 2, 3, 4, 5, 6, 7, 8, 9, 10] = [(10, .int 0), (9, .int 1), (8, .int r_328), (7, .int r_210), (6, .int x_96), (5, .int v116_5), (4, .int k_), (3, .int r_), (0, .ref a0_), (1, .int x1_), (2, .int x2_)])
                      have g9 := g.sub (fx' := [(12, 19, q0_, .ref a_97), (12, 14, q0_, .ref a_91), (12, 15, q0_, .ref a_43), (14, 1, a0_, .ref q0_), (14, 51, a0_, .int r_), (14, 52, a0_, .int k_)]) [0, 1, 2, 3, 4, 5] rfl
                      exact loop_338 (9) 0 (bd_sub kb_0 (by decide)) (by have h9_0 := kb_0; unfold bd at h9_0; have h9_1 := kb_1; unfold bd at h9_1; have h9_2 := kb_2; unfold bd at h9_2; have h9_3 := kb_m1; unfold bd at h9_3; omega) _ _ _ _ g9 hG_330 hG_331 hG_332 hG_333 ⟨_, hG_334, hI116, hp116⟩ hl9
                    · have fc_336 := nle_f c_336
                      have b_444 : bd 3 3 x_98 := ltR fc_336 kb_2 b_327 (by decide)
                      refine lv_aload_n hx hb dX14_goOver_214 rfl (lv_at hl 6 rfl) ?_
                      refine lv_iload hx hb dX14_goOver_215 (lv_at hl 2 rfl) ?_
                      refine lv_iconst (v := 2) hx hb dX14_goOver_217 (by decide) ?_
                      have go_ := g
                      refine g_calli (va_runV (As := [.int x_96, .int 2]) (rest := []) ⟨hx, hb, hml, hown, hts⟩ (r_X14_values_6 l dC dI L kd tys fr_328 H.size g.2.2.2.1 a0_ ma0_ ka0_ x_96 bx_96 2 kb_2 r_ b_32 (g.fcts [4] rfl)) (cwV 2 hts (gV_ t_2760 t_2762 t_174 t_198 t_2763) rfl rfl rfl (by decide +kernel) ⟨(show 0 + 1 ≤ N + 1 + 980 by omega), (show 8 + (5 + 11) + 0 ≤ 60 * (N + 1) + 39317 by omega)⟩) (pre3V g hK ma0_ ka0_ (by decide) (q := (RX14, TX14, 67)) rfl) rfl rfl hl.1 rfl (lv_room (Nat.le_of_ble_eq_true rfl)) dX14_goOver_218 ⟨(Nat.le_of_ble_eq_true rfl), (Nat.le_of_ble_eq_true rfl)⟩) g hK (by decide) (by decide) (fx' := [(12, 19, q0_, .ref a_97), (12, 14, q0_, .ref a_91), (12, 15, q0_, .ref a_43), (14, 1, a0_, .ref q0_), (14, 51, a0_, .int r_), (14, 52, a0_, .int k_)]) rfl (fun r_445 fr_445 H locs hp hMr_445 g => ?_)
                      obtain ⟨h_446, -⟩ := hp
                      have hG_447 := isV.frame hMr_445 go_.2.2.2.1 mq0_ kq0_ (by decide) (by decide) hG_330
                      have hG_448 := mOK.frame hMr_445 go_.2.2.2.1 mq0_ kq0_ (by decide) (by decide) hG_331
                      have hG_449 := tOK.frame hMr_445 go_.2.2.2.1 ma0_ ka0_ (by decide) (by decide) hG_332
                      have hG_450 := oOK.frame hMr_445 go_.2.2.2.1 ma0_ ka0_ (by decide) (by decide) hG_333
                      have hG_451 := isW.frame hMr_445 go_.2.2.2.1 ma0_ ka0_ (by decide) (by decide) hG_334
                      refine lv_goto (tgt := 225) hx hb dX14_goOver_221 (by decide) ?_
                      refine lv_istore (lv' := [(9, .int r_445), (8, .int r_328), (7, .int r_210), (6, .int x_96), (5, .int v116_5), (4, .int k_), (3, .int r_), (0, .ref a0_), (1, .int x1_), (2, .int x2_)]) hx hb dX14_goOver_225 hl (by decide) rfl (fun ls hl => ?_)
                      refine lv_iconst (v := 0) hx hb dX14_goOver_227 (by decide) ?_
                      refine lv_istore (lv' := [(10, .int 0), (9, .int r_445), (8, .int r_328), (7, .int r_210), (6, .int x_96), (5, .int v116_5), (4, .int k_), (3, .int r_), (0, .ref a0_), (1, .int x1_), (2, .int x2_)]) hx hb dX14_goOver_228 hl (by decide) rfl (fun ls hl => ?_)
                      have loop_452 : ∀ (n : Nat) (v230_10 : Int32), bd 0 3 v230_10 → (3 - v230_10.toInt < (n : Int)) → ∀ (f : Nat → va_E) (H : Heap) (locs : List Loc) (ls : Array Slot), G3 (dC, dI) L kd tys s f0 [(14, 30), (14, 31), (14, 32), (14, 33), (14, 34), (14, 35), (14, 36), (14, 37), (14, 38), (14, 39), (14, 40), (14, 45), (14, 51), (14, 52), (14, 53), (14, 55), (14, 58), (14, 59), (14, 61), (14, 65), (14, 66)] [200, 215, 216, 217, 218, 219, 220, 221, 222, 223, 224, 225, 226, 227, 228, 229, 230, 231, 232] f H locs [(12, 19, q0_, .ref a_97), (12, 14, q0_, .ref a_91), (12, 15, q0_, .ref a_43), (14, 1, a0_, .ref q0_), (14, 51, a0_, .int r_), (14, 52, a0_, .int k_)] → isV f q0_ V_ → mOK f q0_ V_ → tOK f a0_ V_ → oOK f a0_ V_ → (∃ R : RW, isW f a0_ R ∧ rwOK V_ R r_ k_ ∧ pfx RW_ R r_ k_) → lv_has ls 15 [(10, .int v230_10), (9, .int r_445), (8, .int r_328), (7, .int r_210), (6, .int x_96), (5, .int v116_5), (4, .int k_), (3, .int r_), (0, .ref a0_), (1, .int x1_), (2, .int x2_)] → W p l e ({ frames := (N + 1) + 980, cells := 0, slots := 0, locals := 60 * (N + 1) + 39317 } : Room) s m [.ref a0_, .int x1_, .int x2_].toArray below meth c H locs 0 0 Q (F0 m 230 ls []) := by
                        intro n230
                        induction n230 with
                        | zero =>
                          intro v230_10 bv230_10 hm230 f H locs ls g hG230_V_q0_ hG230_m_q0_ hG230_t_a0_ hG230_o_a0_ ⟨R230, hW230, hI230, hp230⟩ hl
                          exact absurd hm230 (by have h9_v230_10 := bv230_10; unfold bd at h9_v230_10; omega)
                        | succ n230 ih230 =>
                          intro v230_10 bv230_10 hm230 f H locs ls g hG230_V_q0_ hG230_m_q0_ hG230_t_a0_ hG230_o_a0_ ⟨R230, hW230, hI230, hp230⟩ hl
                          refine lv_iload hx hb dX14_goOver_230 (lv_at hl 0 rfl) ?_
                          refine lv_iload hx hb dX14_goOver_232 (lv_at hl 6 rfl) ?_
                          refine lv_icmp_ge (tgt := 402) hx hb dX14_goOver_234 (by decide) (fun c_453 => ?_) (fun c_453 => ?_)
                          · have fc_453 := le_f c_453
                            obtain ⟨y_454, ey_454⟩ : ∃ z : Int32, z = v116_5 + 1 := ⟨_, rfl⟩
                            refine lv_iinc (v := y_454) (lv' := [(5, .int y_454), (10, .int v230_10), (9, .int r_445), (8, .int r_328), (7, .int r_210), (6, .int x_96), (4, .int k_), (3, .int r_), (0, .ref a0_), (1, .int x1_), (2, .int x2_)]) hx hb dX14_goOver_402 hl (k := 5) rfl (by rw [ey_454]; rfl) (by decide) rfl (fun ls hl => ?_)
                            have ty_454 := add_bd ey_454 b_89 kb_1 (by decide)
                            have b_455 : bd 1 12 y_454 := add_rg ty_454 b_89 kb_1 (by decide)
                            refine lv_goto (tgt := 116) hx hb dX14_goOver_405 (by decide) ?_
                            have hl9 := lv_sub hl [0, 6, 7, 8, 9, 10] (by rfl : lv_pick [(5, .int y_454), (10, .int v230_10), (9, .int r_445), (8, .int r_328), (7, .int r_210), (6, .int x_96), (4, .int k_), (3, .int r_), (0, .ref a0_), (1, .int x1_), (2, .int x2_)] [0, 6, 7, 8, 9, 10] = [(5, .int y_454), (4, .int k_), (3, .int r_), (0, .ref a0_), (1, .int x1_), (2, .int x2_)])
                            have g9 := g.sub (fx' := [(14, 1, a0_, .ref q0_), (14, 51, a0_, .int r_), (14, 52, a0_, .int k_)]) [3, 4, 5] rfl
                            exact ih116  y_454 (bd_sub b_455 (by decide)) (by have h9_0 := b_455; unfold bd at h9_0; have h9_1 := bv116_5; unfold bd at h9_1; have h9_2 := kb_0; unfold bd at h9_2; have h9_3 := kb_1; unfold bd at h9_3; have h9_4 := kb_2; unfold bd at h9_4; have h9_5 := kb_m1; unfold bd at h9_5; omega) _ _ _ _ g9 hG230_V_q0_ hG230_m_q0_ hG230_t_a0_ hG230_o_a0_ ⟨_, hW230, hI230, hp230⟩ hl9
                          · have fc_453 := nle_f c_453
                            have b_456 : bd 0 2 v230_10 := ltL fc_453 bv230_10 bk_ (by decide)
                            have b_457 : bd 1 3 k_ := ltR fc_453 bv230_10 bk_ (by decide)
                            refine lv_iconst (v := 0) hx hb dX14_goOver_237 (by decide) ?_
                            refine lv_istore (lv' := [(11, .int 0), (10, .int v230_10), (9, .int r_445), (8, .int r_328), (7, .int r_210), (6, .int x_96), (5, .int v116_5), (4, .int k_), (3, .int r_), (0, .ref a0_), (1, .int x1_), (2, .int x2_)]) hx hb dX14_goOver_238 hl (by decide) rfl (fun ls hl => ?_)
                            have loop_458 : ∀ (n : Nat) (v240_11 : Int32), bd 0 27 v240_11 → (27 - v240_11.toInt < (n : Int)) → ∀ (f : Nat → va_E) (H : Heap) (locs : List Loc) (ls : Array Slot), G3 (dC, dI) L kd tys s f0 [(14, 30), (14, 31), (14, 32), (14, 33), (14, 34), (14, 35), (14, 36), (14, 37), (14, 38), (14, 39), (14, 40), (14, 45), (14, 51), (14, 52), (14, 53), (14, 55), (14, 58), (14, 59), (14, 61), (14, 65), (14, 66)] [200, 215, 216, 217, 218, 219, 220, 221, 222, 223, 224, 225, 226, 227, 228, 229, 230, 231, 232] f H locs [(12, 19, q0_, .ref a_97), (12, 14, q0_, .ref a_91), (12, 15, q0_, .ref a_43), (14, 1, a0_, .ref q0_), (14, 51, a0_, .int r_), (14, 52, a0_, .int k_)] → isV f q0_ V_ → mOK f q0_ V_ → tOK f a0_ V_ → oOK f a0_ V_ → (∃ R : RW, isW f a0_ R ∧ rwOK V_ R r_ k_ ∧ pfx RW_ R r_ k_) → lv_has ls 15 [(11, .int v240_11), (10, .int v230_10), (9, .int r_445), (8, .int r_328), (7, .int r_210), (6, .int x_96), (5, .int v116_5), (4, .int k_), (3, .int r_), (0, .ref a0_), (1, .int x1_), (2, .int x2_)] → W p l e ({ frames := (N + 1) + 980, cells := 0, slots := 0, locals := 60 * (N + 1) + 39317 } : Room) s m [.ref a0_, .int x1_, .int x2_].toArray below meth c H locs 0 0 Q (F0 m 240 ls []) := by
                              intro n240
                              induction n240 with
                              | zero =>
                                intro v240_11 bv240_11 hm240 f H locs ls g hG240_V_q0_ hG240_m_q0_ hG240_t_a0_ hG240_o_a0_ ⟨R240, hW240, hI240, hp240⟩ hl
                                exact absurd hm240 (by have h9_v240_11 := bv240_11; unfold bd at h9_v240_11; omega)
                              | succ n240 ih240 =>
                                intro v240_11 bv240_11 hm240 f H locs ls g hG240_V_q0_ hG240_m_q0_ hG240_t_a0_ hG240_o_a0_ ⟨R240, hW240, hI240, hp240⟩ hl
                                refine lv_iload hx hb dX14_goOver_240 (lv_at hl 0 rfl) ?_
                                refine lv_iload hx hb dX14_goOver_242 (lv_at hl 4 rfl) ?_
                                refine lv_iload hx hb dX14_goOver_244 (lv_at hl 3 rfl) ?_
                                refine lv_imul hx hb dX14_goOver_246 ?_
                                refine lv_topi (fun y_459 ey_459 => ?_)
                                have b_460 : bd 1 9 y_459 := mul_rg ey_459 h_211 h_329 (by decide)
                                refine lv_iload hx hb dX14_goOver_247 (lv_at hl 2 rfl) ?_
                                refine lv_imul hx hb dX14_goOver_249 ?_
                                refine lv_topi (fun y_461 ey_461 => ?_)
                                have b_462 : bd 1 27 y_461 := mul_rg ey_461 b_460 h_446 (by decide)
                                refine lv_icmp_ge (tgt := 396) hx hb dX14_goOver_250 (by decide) (fun c_463 => ?_) (fun c_463 => ?_)
                                · have fc_463 := le_f c_463
                                  have b_464 : bd 1 27 v240_11 := leR fc_463 b_462 bv240_11 (by decide)
                                  obtain ⟨y_465, ey_465⟩ : ∃ z : Int32, z = v230_10 + 1 := ⟨_, rfl⟩
                                  refine lv_iinc (v := y_465) (lv' := [(10, .int y_465), (11, .int v240_11), (9, .int r_445), (8, .int r_328), (7, .int r_210), (6, .int x_96), (5, .int v116_5), (4, .int k_), (3, .int r_), (0, .ref a0_), (1, .int x1_), (2, .int x2_)]) hx hb dX14_goOver_396 hl (k := 1) rfl (by rw [ey_465]; rfl) (by decide) rfl (fun ls hl => ?_)
                                  have ty_465 := add_bd ey_465 b_456 kb_1 (by decide)
                                  have b_466 : bd 1 3 y_465 := add_rg ty_465 b_456 kb_1 (by decide)
                                  refine lv_goto (tgt := 230) hx hb dX14_goOver_399 (by decide) ?_
                                  have hl9 := lv_sub hl [0, 2, 3, 4, 5, 6, 7, 8, 9, 10, 11] (by rfl : lv_pick [(10, .int y_465), (11, .int v240_11), (9, .int r_445), (8, .int r_328), (7, .int r_210), (6, .int x_96), (5, .int v116_5), (4, .int k_), (3, .int r_), (0, .ref a0_), (1, .int x1_), (2, .int x2_)] [0, 2, 3, 4, 5, 6, 7, 8, 9, 10, 11] = [(10, .int y_465), (9, .int r_445), (8, .int r_328), (7, .int r_210), (6, .int x_96), (5, .int v116_5), (4, .int k_), (3, .int r_), (0, .ref a0_), (1, .int x1_), (2, .int x2_)])
                                  have g9 := g.sub (fx' := [(12, 19, q0_, .ref a_97), (12, 14, q0_, .ref a_91), (12, 15, q0_, .ref a_43), (14, 1, a0_, .ref q0_), (14, 51, a0_, .int r_), (14, 52, a0_, .int k_)]) [0, 1, 2, 3, 4, 5] rfl
                                  exact ih230  y_465 (bd_sub b_466 (by decide)) (by have h9_0 := b_466; unfold bd at h9_0; have h9_1 := bv230_10; unfold bd at h9_1; have h9_2 := kb_0; unfold bd at h9_2; have h9_3 := kb_1; unfold bd at h9_3; have h9_4 := kb_2; unfold bd at h9_4; have h9_5 := kb_m1; unfold bd at h9_5; omega) _ _ _ _ g9 hG240_V_q0_ hG240_m_q0_ hG240_t_a0_ hG240_o_a0_ ⟨_, hW240, hI240, hp240⟩ hl9
                                · have fc_463 := nle_f c_463
                                  have b_467 : bd 0 26 v240_11 := ltL fc_463 bv240_11 b_462 (by decide)
                                  have join_468 : ∀ (j354_14 : Int32) (j354_13 : Int32) (j354_12 : Int32) (f : Nat → va_E) (H : Heap) (locs : List Loc) (ls : Array Slot), G3 (dC, dI) L kd tys s f0 [(14, 30), (14, 31), (14, 32), (14, 33), (14, 34), (14, 35), (14, 36), (14, 37), (14, 38), (14, 39), (14, 40), (14, 45), (14, 51), (14, 52), (14, 53), (14, 55), (14, 58), (14, 59), (14, 61), (14, 65), (14, 66)] [200, 215, 216, 217, 218, 219, 220, 221, 222, 223, 224, 225, 226, 227, 228, 229, 230, 231, 232] f H locs [(12, 19, q0_, .ref a_97), (12, 14, q0_, .ref a_91), (12, 15, q0_, .ref a_43), (14, 1, a0_, .ref q0_), (14, 51, a0_, .int r_), (14, 52, a0_, .int k_)] → isV f q0_ V_ → mOK f q0_ V_ → tOK f a0_ V_ → oOK f a0_ V_ → isW f a0_ R240 → lv_has ls 15 [(14, .int j354_14), (13, .int j354_13), (12, .int j354_12), (11, .int v240_11), (10, .int v230_10), (9, .int r_445), (8, .int r_328), (7, .int r_210), (6, .int x_96), (5, .int v116_5), (4, .int k_), (3, .int r_), (0, .ref a0_), (1, .int x1_), (2, .int x2_)] → W p l e ({ frames := (N + 1) + 980, cells := 0, slots := 0, locals := 60 * (N + 1) + 39317 } : Room) s m [.ref a0_, .int x1_, .int x2_].toArray below meth c H locs 0 0 Q (F0 m 354 ls []) := by
                                    intro j354_14 j354_13 j354_12 f H locs ls    g hJ354_V_q0_ hJ354_m_q0_ hJ354_t_a0_ hJ354_o_a0_ hJ354_W_a0_ hl
                                    refine lv_aload_n hx hb dX14_goOver_354 rfl (lv_at hl 12 rfl) ?_
                                    refine lv_iload hx hb dX14_goOver_355 (lv_at hl 4 rfl) ?_
                                    refine lv_iload hx hb dX14_goOver_357 (lv_at hl 9 rfl) ?_
                                    refine lv_iload hx hb dX14_goOver_359 (lv_at hl 2 rfl) ?_
                                    refine lv_iload hx hb dX14_goOver_361 (lv_at hl 1 rfl) ?_
                                    refine lv_iload hx hb dX14_goOver_363 (lv_at hl 0 rfl) ?_
                                    have go_ := g
                                    refine g_callv (va_runV (As := [.int v230_10, .int v116_5, .int j354_12, .int j354_13, .int j354_14]) (rest := []) ⟨hx, hb, hml, hown, hts⟩ (r_X14_addCall l dC dI L kd tys f H.size g.2.2.2.1 a0_ ma0_ ka0_ v230_10 b_456 v116_5 b_89 j354_12 j354_13 j354_14 q0_ mq0_ kq0_ r_ (bd_sub b_32 (by decide)) k_ (bd_sub b_457 (by decide)) V_ δ_ hW R240 hJ354_W_a0_ hJ354_V_q0_ hI240 fc_453 (by rw [(hall.pf hp240) v230_10.toNatClampNeg (by rw [tnZ b_456.1]; exact fc_453), ← vx_44]; exact fc_45) (g.fcts [3, 4, 5] rfl)) (cwV 5 hts (gV_ t_2606 t_2608 t_140 t_198 t_2609) rfl rfl rfl (by decide +kernel) ⟨(show 0 + 1 ≤ N + 1 + 980 by omega), (show 8 + (6 + 11) + 0 ≤ 60 * (N + 1) + 39317 by omega)⟩) (pre3V g hK ma0_ ka0_ (by decide) (q := (RX14, TX14, 67)) rfl) rfl rfl hl.1 rfl (lv_room (Nat.le_of_ble_eq_true rfl)) dX14_goOver_365 ⟨(Nat.le_of_ble_eq_true rfl), (Nat.le_of_ble_eq_true rfl)⟩) g hK (by decide) (by decide) (fx' := [(12, 19, q0_, .ref a_97), (12, 14, q0_, .ref a_91), (12, 15, q0_, .ref a_43), (14, 1, a0_, .ref q0_), (14, 52, a0_, .int k_)]) rfl (fun fr_469 H locs hp hMr_469 g => ?_)
                                    obtain ⟨hx_470, hx_471, x_472, ⟨h_473, rh_473⟩, hF_474⟩ := hp
                                    have hG_475 := isV.frame hMr_469 go_.2.2.2.1 mq0_ kq0_ (by decide) (by decide) hJ354_V_q0_
                                    have hG_476 := mOK.frame hMr_469 go_.2.2.2.1 mq0_ kq0_ (by decide) (by decide) hJ354_m_q0_
                                    have hG_477 := tOK.frame hMr_469 go_.2.2.2.1 ma0_ ka0_ (by decide) (by decide) hJ354_t_a0_
                                    have hG_478 := oOK.frame hMr_469 go_.2.2.2.1 ma0_ ka0_ (by decide) (by decide) hJ354_o_a0_
                                    have g := g.more hF_474
                                    refine lv_aload_n hx hb dX14_goOver_368 rfl (lv_at hl 12 rfl) ?_
                                    refine lv_iload_n hx hb dX14_goOver_369 rfl (lv_at hl 13 rfl) ?_
                                    refine lv_iload_n hx hb dX14_goOver_370 rfl (lv_at hl 14 rfl) ?_
                                    have b_479 : bd 0 4 x_472 := ⟨(by have h9_0 := b_457; unfold bd at h9_0; have h9_1 := b_32; unfold bd at h9_1; have h9_2 := h_211; unfold bd at h9_2; have h9_3 := h_329; unfold bd at h9_3; have h9_4 := h_446; unfold bd at h9_4; have h9_5 := b_89; unfold bd at h9_5; have h9_6 := b_456; unfold bd at h9_6; have h9_7 := b_467; unfold bd at h9_7; have h9_8 := bx1_; unfold bd at h9_8; have h9_9 := bx2_; unfold bd at h9_9; have h9_10 := bx_217; unfold bd at h9_10; have h9_11 := bx_335; unfold bd at h9_11; have h9_12 := b_90; unfold bd at h9_12; have h9_13 := h_473; unfold bd at h9_13; have h9_14 := bx_96; unfold bd at h9_14; have h9_15 := b_444; unfold bd at h9_15; have h9_16 := b_460; unfold bd at h9_16; have h9_17 := b_462; unfold bd at h9_17; have h9_18 := b_93; unfold bd at h9_18; have h9_19 := b_95; unfold bd at h9_19; have h8_0 := kb_0; unfold bd at h8_0; have h8_1 := kb_1; unfold bd at h8_1; have h8_2 := kb_2; unfold bd at h8_2; have h8_3 := kb_m1; unfold bd at h8_3; omega), (by have h9_0 := b_457; unfold bd at h9_0; have h9_1 := b_32; unfold bd at h9_1; have h9_2 := h_211; unfold bd at h9_2; have h9_3 := h_329; unfold bd at h9_3; have h9_4 := h_446; unfold bd at h9_4; have h9_5 := b_89; unfold bd at h9_5; have h9_6 := b_456; unfold bd at h9_6; have h9_7 := b_467; unfold bd at h9_7; have h9_8 := bx1_; unfold bd at h9_8; have h9_9 := bx2_; unfold bd at h9_9; have h9_10 := bx_217; unfold bd at h9_10; have h9_11 := bx_335; unfold bd at h9_11; have h9_12 := b_90; unfold bd at h9_12; have h9_13 := h_473; unfold bd at h9_13; have h9_14 := bx_96; unfold bd at h9_14; have h9_15 := b_444; unfold bd at h9_15; have h9_16 := b_460; unfold bd at h9_16; have h9_17 := b_462; unfold bd at h9_17; have h9_18 := b_93; unfold bd at h9_18; have h9_19 := b_95; unfold bd at h9_19; have h8_0 := kb_0; unfold bd at h8_0; have h8_1 := kb_1; unfold bd at h8_1; have h8_2 := kb_2; unfold bd at h8_2; have h8_3 := kb_m1; unfold bd at h8_3; omega)⟩
                                    have go_ := g
                                    refine g_calli (va_runV (As := [.int x1_, .int x2_]) (rest := []) ⟨hx, hb, hml, hown, hts⟩ (ih l dC dI L kd tys fr_469 H.size g.2.2.2.1 adK adV a0_ ma0_ ka0_ x1_ bx1_ x2_ bx2_ q0_ mq0_ kq0_ x_472 b_479 k_ (bd_sub b_457 (by decide)) V_ δ_ hW (R240.adC r_ v230_10 v116_5 j354_12 j354_13 j354_14) hG_475 hx_470 hG_476 hG_478 hG_477 (hx_471.1 _ _ (by have h9_0 := b_457; unfold bd at h9_0; have h9_1 := b_32; unfold bd at h9_1; have h9_2 := h_211; unfold bd at h9_2; have h9_3 := h_329; unfold bd at h9_3; have h9_4 := h_446; unfold bd at h9_4; have h9_5 := b_89; unfold bd at h9_5; have h9_6 := b_456; unfold bd at h9_6; have h9_7 := b_467; unfold bd at h9_7; have h9_8 := bx1_; unfold bd at h9_8; have h9_9 := bx2_; unfold bd at h9_9; have h9_10 := bx_217; unfold bd at h9_10; have h9_11 := bx_335; unfold bd at h9_11; have h9_12 := b_90; unfold bd at h9_12; have h9_13 := b_479; unfold bd at h9_13; have h9_14 := bx_96; unfold bd at h9_14; have h9_15 := b_444; unfold bd at h9_15; have h9_16 := b_460; unfold bd at h9_16; have h9_17 := b_462; unfold bd at h9_17; have h9_18 := b_93; unfold bd at h9_18; have h9_19 := b_95; unfold bd at h9_19; have h8_0 := kb_0; unfold bd at h8_0; have h8_1 := kb_1; unfold bd at h8_1; have h8_2 := kb_2; unfold bd at h8_2; have h8_3 := kb_m1; unfold bd at h8_3; omega) (by have h9_0 := b_457; unfold bd at h9_0; have h9_1 := b_32; unfold bd at h9_1; have h9_2 := h_211; unfold bd at h9_2; have h9_3 := h_329; unfold bd at h9_3; have h9_4 := h_446; unfold bd at h9_4; have h9_5 := b_89; unfold bd at h9_5; have h9_6 := b_456; unfold bd at h9_6; have h9_7 := b_467; unfold bd at h9_7; have h9_8 := bx1_; unfold bd at h9_8; have h9_9 := bx2_; unfold bd at h9_9; have h9_10 := bx_217; unfold bd at h9_10; have h9_11 := bx_335; unfold bd at h9_11; have h9_12 := b_90; unfold bd at h9_12; have h9_13 := b_479; unfold bd at h9_13; have h9_14 := bx_96; unfold bd at h9_14; have h9_15 := b_444; unfold bd at h9_15; have h9_16 := b_460; unfold bd at h9_16; have h9_17 := b_462; unfold bd at h9_17; have h9_18 := b_93; unfold bd at h9_18; have h9_19 := b_95; unfold bd at h9_19; have h8_0 := kb_0; unfold bd at h8_0; have h8_1 := kb_1; unfold bd at h8_1; have h8_2 := kb_2; unfold bd at h8_2; have h8_3 := kb_m1; unfold bd at h8_3; omega)) ((hall.pf hp240).ad hx_471 (Or.inl rfl) (by have h9_0 := b_457; unfold bd at h9_0; have h9_1 := b_32; unfold bd at h9_1; have h9_2 := h_211; unfold bd at h9_2; have h9_3 := h_329; unfold bd at h9_3; have h9_4 := h_446; unfold bd at h9_4; have h9_5 := b_89; unfold bd at h9_5; have h9_6 := b_456; unfold bd at h9_6; have h9_7 := b_467; unfold bd at h9_7; have h9_8 := bx1_; unfold bd at h9_8; have h9_9 := bx2_; unfold bd at h9_9; have h9_10 := bx_217; unfold bd at h9_10; have h9_11 := bx_335; unfold bd at h9_11; have h9_12 := b_90; unfold bd at h9_12; have h9_13 := b_479; unfold bd at h9_13; have h9_14 := bx_96; unfold bd at h9_14; have h9_15 := b_444; unfold bd at h9_15; have h9_16 := b_460; unfold bd at h9_16; have h9_17 := b_462; unfold bd at h9_17; have h9_18 := b_93; unfold bd at h9_18; have h9_19 := b_95; unfold bd at h9_19; have h8_0 := kb_0; unfold bd at h8_0; have h8_1 := kb_1; unfold bd at h8_1; have h8_2 := kb_2; unfold bd at h8_2; have h8_3 := kb_m1; unfold bd at h8_3; omega) (by have h9_0 := b_457; unfold bd at h9_0; have h9_1 := b_32; unfold bd at h9_1; have h9_2 := h_211; unfold bd at h9_2; have h9_3 := h_329; unfold bd at h9_3; have h9_4 := h_446; unfold bd at h9_4; have h9_5 := b_89; unfold bd at h9_5; have h9_6 := b_456; unfold bd at h9_6; have h9_7 := b_467; unfold bd at h9_7; have h9_8 := bx1_; unfold bd at h9_8; have h9_9 := bx2_; unfold bd at h9_9; have h9_10 := bx_217; unfold bd at h9_10; have h9_11 := bx_335; unfold bd at h9_11; have h9_12 := b_90; unfold bd at h9_12; have h9_13 := b_479; unfold bd at h9_13; have h9_14 := bx_96; unfold bd at h9_14; have h9_15 := b_444; unfold bd at h9_15; have h9_16 := b_460; unfold bd at h9_16; have h9_17 := b_462; unfold bd at h9_17; have h9_18 := b_93; unfold bd at h9_18; have h9_19 := b_95; unfold bd at h9_19; have h8_0 := kb_0; unfold bd at h8_0; have h8_1 := kb_1; unfold bd at h8_1; have h8_2 := kb_2; unfold bd at h8_2; have h8_3 := kb_m1; unfold bd at h8_3; omega)) hcl (by have h9_0 := b_457; unfold bd at h9_0; have h9_1 := b_32; unfold bd at h9_1; have h9_2 := h_211; unfold bd at h9_2; have h9_3 := h_329; unfold bd at h9_3; have h9_4 := h_446; unfold bd at h9_4; have h9_5 := b_89; unfold bd at h9_5; have h9_6 := b_456; unfold bd at h9_6; have h9_7 := b_467; unfold bd at h9_7; have h9_8 := bx1_; unfold bd at h9_8; have h9_9 := bx2_; unfold bd at h9_9; have h9_10 := bx_217; unfold bd at h9_10; have h9_11 := bx_335; unfold bd at h9_11; have h9_12 := b_90; unfold bd at h9_12; have h9_13 := b_479; unfold bd at h9_13; have h9_14 := bx_96; unfold bd at h9_14; have h9_15 := b_444; unfold bd at h9_15; have h9_16 := b_460; unfold bd at h9_16; have h9_17 := b_462; unfold bd at h9_17; have h9_18 := b_93; unfold bd at h9_18; have h9_19 := b_95; unfold bd at h9_19; have h8_0 := kb_0; unfold bd at h8_0; have h8_1 := kb_1; unfold bd at h8_1; have h8_2 := kb_2; unfold bd at h8_2; have h8_3 := kb_m1; unfold bd at h8_3; omega) (by have h9_0 := b_457; unfold bd at h9_0; have h9_1 := b_32; unfold bd at h9_1; have h9_2 := h_211; unfold bd at h9_2; have h9_3 := h_329; unfold bd at h9_3; have h9_4 := h_446; unfold bd at h9_4; have h9_5 := b_89; unfold bd at h9_5; have h9_6 := b_456; unfold bd at h9_6; have h9_7 := b_467; unfold bd at h9_7; have h9_8 := bx1_; unfold bd at h9_8; have h9_9 := bx2_; unfold bd at h9_9; have h9_10 := bx_217; unfold bd at h9_10; have h9_11 := bx_335; unfold bd at h9_11; have h9_12 := b_90; unfold bd at h9_12; have h9_13 := b_479; unfold bd at h9_13; have h9_14 := bx_96; unfold bd at h9_14; have h9_15 := b_444; unfold bd at h9_15; have h9_16 := b_460; unfold bd at h9_16; have h9_17 := b_462; unfold bd at h9_17; have h9_18 := b_93; unfold bd at h9_18; have h9_19 := b_95; unfold bd at h9_19; have h8_0 := kb_0; unfold bd at h8_0; have h8_1 := kb_1; unfold bd at h8_1; have h8_2 := kb_2; unfold bd at h8_2; have h8_3 := kb_m1; unfold bd at h8_3; omega) (g.fcts [4, 0, 5] rfl)) (cwV 2 hts (gV_ t_2752 t_2754 t_172 t_198 t_2755) rfl rfl rfl (by decide +kernel) ⟨(show N + 980 + 1 ≤ N + 1 + 980 by omega), (show 8 + (15 + 11) + (60 * N + 39317) ≤ 60 * (N + 1) + 39317 by omega)⟩) (pre3VA g hK hAm ma0_ ka0_ (by decide) (q := (RX14, TX14, 67)) rfl) rfl rfl hl.1 rfl (lv_room (Nat.le_of_ble_eq_true rfl)) dX14_goOver_371 ⟨(Nat.le_of_ble_eq_true rfl), (Nat.le_of_ble_eq_true rfl)⟩) g hK (by decide) (by decide) (fx' := [(12, 19, q0_, .ref a_97), (12, 14, q0_, .ref a_91), (12, 15, q0_, .ref a_43), (14, 1, a0_, .ref q0_)]) rfl (fun r_480 fr_480 H locs hp hMr_480 g => ?_)
                                    obtain ⟨hG_481, hG_482, hx_483, h_484, -⟩ := hp
                                    have hG_485 := isV.frame hMr_480 go_.2.2.2.1 mq0_ kq0_ (by decide) (by decide) hG_475
                                    have hG_486 := mOK.frame hMr_480 go_.2.2.2.1 mq0_ kq0_ (by decide) (by decide) hG_476
                                    obtain ⟨R_487, hR_488, hp_489, hr_490⟩ := hx_483
                                    have hpf_491 := ((hp240.tr hx_471.2 (Int.le_refl _) (Int.le_refl _)).tr hp_489 (by have h9_0 := b_457; unfold bd at h9_0; have h9_1 := b_32; unfold bd at h9_1; have h9_2 := h_211; unfold bd at h9_2; have h9_3 := h_329; unfold bd at h9_3; have h9_4 := h_446; unfold bd at h9_4; have h9_5 := h_484; unfold bd at h9_5; have h9_6 := b_89; unfold bd at h9_6; have h9_7 := b_456; unfold bd at h9_7; have h9_8 := b_467; unfold bd at h9_8; have h9_9 := bx1_; unfold bd at h9_9; have h9_10 := bx2_; unfold bd at h9_10; have h9_11 := bx_217; unfold bd at h9_11; have h9_12 := bx_335; unfold bd at h9_12; have h9_13 := b_90; unfold bd at h9_13; have h9_14 := b_479; unfold bd at h9_14; have h9_15 := bx_96; unfold bd at h9_15; have h9_16 := b_444; unfold bd at h9_16; have h9_17 := b_460; unfold bd at h9_17; have h9_18 := b_462; unfold bd at h9_18; have h9_19 := b_93; unfold bd at h9_19; have h9_20 := b_95; unfold bd at h9_20; have h8_0 := kb_0; unfold bd at h8_0; have h8_1 := kb_1; unfold bd at h8_1; have h8_2 := kb_2; unfold bd at h8_2; have h8_3 := kb_m1; unfold bd at h8_3; omega) (by have h9_0 := b_457; unfold bd at h9_0; have h9_1 := b_32; unfold bd at h9_1; have h9_2 := h_211; unfold bd at h9_2; have h9_3 := h_329; unfold bd at h9_3; have h9_4 := h_446; unfold bd at h9_4; have h9_5 := h_484; unfold bd at h9_5; have h9_6 := b_89; unfold bd at h9_6; have h9_7 := b_456; unfold bd at h9_7; have h9_8 := b_467; unfold bd at h9_8; have h9_9 := bx1_; unfold bd at h9_9; have h9_10 := bx2_; unfold bd at h9_10; have h9_11 := bx_217; unfold bd at h9_11; have h9_12 := bx_335; unfold bd at h9_12; have h9_13 := b_90; unfold bd at h9_13; have h9_14 := b_479; unfold bd at h9_14; have h9_15 := bx_96; unfold bd at h9_15; have h9_16 := b_444; unfold bd at h9_16; have h9_17 := b_460; unfold bd at h9_17; have h9_18 := b_462; unfold bd at h9_18; have h9_19 := b_93; unfold bd at h9_19; have h9_20 := b_95; unfold bd at h9_20; have h8_0 := kb_0; unfold bd at h8_0; have h8_1 := kb_1; unfold bd at h8_1; have h8_2 := kb_2; unfold bd at h8_2; have h8_3 := kb_m1; unfold bd at h8_3; omega))
                                    refine lv_if_eq (tgt := 379) hx hb dX14_goOver_374 (by decide) (fun c_492 => ?_) (fun c_492 => ?_)
                                    · have fc_492 := eq_f c_492
                                      have b_493 : bd 0 0 r_480 := eqX fc_492 h_484 kb_0 (by decide)
                                      refine lv_aload_n hx hb dX14_goOver_379 rfl (lv_at hl 12 rfl) ?_
                                      refine lv_iload_n hx hb dX14_goOver_380 rfl (lv_at hl 11 rfl) ?_
                                      have go_ := g
                                      refine g_put (C := RX14) (T := TX14) (N := 67) hx hb hts (mc_ inX14) tyX14 tyX14_ok nmX14 hown hK g ma0_ ka0_ (by decide) rfl 51 (by decide) (hts _ (List.mem_cons_of_mem _ t_2197)) (fun _ h9 => h9) rfl rfl (okV_i (bd_sub b_32 (by decide))) rfl rfl (by decide) (Or.inr (Or.inl (by decide))) (fx' := [(12, 19, q0_, .ref a_97), (12, 14, q0_, .ref a_91), (12, 15, q0_, .ref a_43), (14, 1, a0_, .ref q0_)]) rfl dX14_goOver_381 (fun f H locs hM_494 g => ?_)
                                      have hG_495 := isV.frame hM_494 go_.2.2.2.1 mq0_ kq0_ (by decide) (by decide) hG_485
                                      have hG_496 := mOK.frame hM_494 go_.2.2.2.1 mq0_ kq0_ (by decide) (by decide) hG_486
                                      have hG_497 := tOK.frame hM_494 go_.2.2.2.1 ma0_ ka0_ (by decide) (by decide) hG_482
                                      have hG_498 := oOK.frame hM_494 go_.2.2.2.1 ma0_ ka0_ (by decide) (by decide) hG_481
                                      have hG_499 := isW.frame hM_494 go_.2.2.2.1 ma0_ ka0_ (by decide) (by decide) hR_488
                                      refine lv_aload_n hx hb dX14_goOver_384 rfl (lv_at hl 12 rfl) ?_
                                      refine lv_iload hx hb dX14_goOver_385 (lv_at hl 10 rfl) ?_
                                      have go_ := g
                                      refine g_put (C := RX14) (T := TX14) (N := 67) hx hb hts (mc_ inX14) tyX14 tyX14_ok nmX14 hown hK g ma0_ ka0_ (by decide) rfl 52 (by decide) (hts _ (List.mem_cons_of_mem _ t_2198)) (fun _ h9 => h9) rfl rfl (okV_i (bd_sub b_457 (by decide))) rfl rfl (by decide) (Or.inr (Or.inl (by decide))) (fx' := [(14, 51, a0_, .int r_), (12, 19, q0_, .ref a_97), (12, 14, q0_, .ref a_91), (12, 15, q0_, .ref a_43), (14, 1, a0_, .ref q0_)]) rfl dX14_goOver_387 (fun f H locs hM_500 g => ?_)
                                      have hG_501 := isV.frame hM_500 go_.2.2.2.1 mq0_ kq0_ (by decide) (by decide) hG_495
                                      have hG_502 := mOK.frame hM_500 go_.2.2.2.1 mq0_ kq0_ (by decide) (by decide) hG_496
                                      have hG_503 := tOK.frame hM_500 go_.2.2.2.1 ma0_ ka0_ (by decide) (by decide) hG_497
                                      have hG_504 := oOK.frame hM_500 go_.2.2.2.1 ma0_ ka0_ (by decide) (by decide) hG_498
                                      have hG_505 := isW.frame hM_500 go_.2.2.2.1 ma0_ ka0_ (by decide) (by decide) hG_499
                                      obtain ⟨y_506, ey_506⟩ : ∃ z : Int32, z = v240_11 + 1 := ⟨_, rfl⟩
                                      refine lv_iinc (v := y_506) (lv' := [(11, .int y_506), (14, .int j354_14), (13, .int j354_13), (12, .int j354_12), (10, .int v230_10), (9, .int r_445), (8, .int r_328), (7, .int r_210), (6, .int x_96), (5, .int v116_5), (4, .int k_), (3, .int r_), (0, .ref a0_), (1, .int x1_), (2, .int x2_)]) hx hb dX14_goOver_390 hl (k := 3) rfl (by rw [ey_506]; rfl) (by decide) rfl (fun ls hl => ?_)
                                      have ty_506 := add_bd ey_506 b_467 kb_1 (by decide)
                                      have b_507 : bd 1 27 y_506 := add_rg ty_506 b_467 kb_1 (by decide)
                                      refine lv_goto (tgt := 240) hx hb dX14_goOver_393 (by decide) ?_
                                      have hl9 := lv_sub hl [0, 4, 5, 6, 7, 8, 9, 10, 11, 12, 13, 14] (by rfl : lv_pick [(11, .int y_506), (14, .int j354_14), (13, .int j354_13), (12, .int j354_12), (10, .int v230_10), (9, .int r_445), (8, .int r_328), (7, .int r_210), (6, .int x_96), (5, .int v116_5), (4, .int k_), (3, .int r_), (0, .ref a0_), (1, .int x1_), (2, .int x2_)] [0, 4, 5, 6, 7, 8, 9, 10, 11, 12, 13, 14] = [(11, .int y_506), (10, .int v230_10), (9, .int r_445), (8, .int r_328), (7, .int r_210), (6, .int x_96), (5, .int v116_5), (4, .int k_), (3, .int r_), (0, .ref a0_), (1, .int x1_), (2, .int x2_)])
                                      have g9 := g.sub (fx' := [(12, 19, q0_, .ref a_97), (12, 14, q0_, .ref a_91), (12, 15, q0_, .ref a_43), (14, 1, a0_, .ref q0_), (14, 51, a0_, .int r_), (14, 52, a0_, .int k_)]) [2, 3, 4, 5, 1, 0] rfl
                                      exact ih240  y_506 (bd_sub b_507 (by decide)) (by have h9_0 := b_507; unfold bd at h9_0; have h9_1 := bv240_11; unfold bd at h9_1; have h9_2 := kb_0; unfold bd at h9_2; have h9_3 := kb_1; unfold bd at h9_3; have h9_4 := kb_2; unfold bd at h9_4; have h9_5 := kb_m1; unfold bd at h9_5; omega) _ _ _ _ g9 hG_501 hG_502 hG_503 hG_504 ⟨_, hG_505, (hrw.keep br_.1 hpf_491), hpf_491⟩ hl9
                                    · have fc_492 := neq_f c_492
                                      have b_508 : bd 1 1 r_480 := neX fc_492 h_484 kb_0 (by decide)
                                      refine lv_iconst (v := 1) hx hb dX14_goOver_377 (by decide) ?_
                                      subst hQ
                                      exact W.zret (v := 1) hx hb hr (nar_z (bd_sub kb_1 (by decide) : bd 0 1 _).1 (bd_sub kb_1 (by decide) : bd 0 1 _).2) (fun t ht hW => ⟨⟨_, _, rfl, ⟨hG_481, hG_482, ⟨_, hR_488, hpf_491, hr_490⟩, (bd_sub kb_1 (by decide)), trivial⟩, q3_of g hK ht hW⟩, g.2.2.1.F ht⟩) g.2.2.1.2.2 dX14_goOver_378
                                  refine lv_aload_n hx hb dX14_goOver_253 rfl (lv_at hl 9 rfl) ?_
                                  refine g_getk (C := RX14) (T := TX14) (N := 67) hx hb hts (mc_ inX14) hown hK g rfl 1 (by decide) rfl (hts _ (List.mem_cons_of_mem _ t_2147)) (fun _ h9 => h9) 3 rfl dX14_goOver_254 ?_
                                  refine g_getk (C := RX12) (T := TX12) (N := 60) hx hb hts (mc_ inX12) hown hK g rfl 19 (by decide) rfl (hts _ (List.mem_cons_of_mem _ t_1944)) (fun _ h9 => h9) 0 rfl dX14_goOver_257 ?_
                                  refine lv_iload hx hb dX14_goOver_260 (lv_at hl 5 rfl) ?_
                                  refine g_iald hx hb hK g ma_97 ka_97 (by decide) rfl (in_bd bx_96 (by decide)) dX14_goOver_262 (fun x_509 bx_509 cx_509 => ?_)
                                  have vx_509 : x_509 = V_.i 19 x_96.toNatClampNeg := hG240_V_q0_.at g 0 rfl rfl cx_509
                                  refine lv_if_le (tgt := 284) hx hb dX14_goOver_263 (by decide) (fun c_510 => ?_) (fun c_510 => ?_)
                                  · have fc_510 := le_f c_510
                                    have b_511 : bd 0 0 x_509 := leL fc_510 bx_509 kb_0 (by decide)
                                    refine lv_iconst (v := 0) hx hb dX14_goOver_284 (by decide) ?_
                                    refine lv_istore (lv' := [(12, .int 0), (11, .int v240_11), (10, .int v230_10), (9, .int r_445), (8, .int r_328), (7, .int r_210), (6, .int x_96), (5, .int v116_5), (4, .int k_), (3, .int r_), (0, .ref a0_), (1, .int x1_), (2, .int x2_)]) hx hb dX14_goOver_285 hl (by decide) rfl (fun ls hl => ?_)
                                    refine lv_aload_n hx hb dX14_goOver_287 rfl (lv_at hl 10 rfl) ?_
                                    refine g_getk (C := RX14) (T := TX14) (N := 67) hx hb hts (mc_ inX14) hown hK g rfl 1 (by decide) rfl (hts _ (List.mem_cons_of_mem _ t_2147)) (fun _ h9 => h9) 3 rfl dX14_goOver_288 ?_
                                    refine g_getk (C := RX12) (T := TX12) (N := 60) hx hb hts (mc_ inX12) hown hK g rfl 19 (by decide) rfl (hts _ (List.mem_cons_of_mem _ t_1944)) (fun _ h9 => h9) 0 rfl dX14_goOver_291 ?_
                                    refine lv_iload hx hb dX14_goOver_294 (lv_at hl 6 rfl) ?_
                                    refine g_iald hx hb hK g ma_97 ka_97 (by decide) rfl (in_bd bx_96 (by decide)) dX14_goOver_296 (fun x_512 bx_512 cx_512 => ?_)
                                    obtain rfl : x_509 = x_512 := el_same cx_509 cx_512 rfl
                                    refine lv_iconst (v := 1) hx hb dX14_goOver_297 (by decide) ?_
                                    refine lv_icmp_le (tgt := 319) hx hb dX14_goOver_298 (by decide) (fun c_513 => ?_) (fun c_513 => ?_)
                                    · have fc_513 := le_f c_513
                                      refine lv_iconst (v := 0) hx hb dX14_goOver_319 (by decide) ?_
                                      refine lv_istore (lv' := [(13, .int 0), (12, .int 0), (11, .int v240_11), (10, .int v230_10), (9, .int r_445), (8, .int r_328), (7, .int r_210), (6, .int x_96), (5, .int v116_5), (4, .int k_), (3, .int r_), (0, .ref a0_), (1, .int x1_), (2, .int x2_)]) hx hb dX14_goOver_320 hl (by decide) rfl (fun ls hl => ?_)
                                      refine lv_aload_n hx hb dX14_goOver_322 rfl (lv_at hl 11 rfl) ?_
                                      refine g_getk (C := RX14) (T := TX14) (N := 67) hx hb hts (mc_ inX14) hown hK g rfl 1 (by decide) rfl (hts _ (List.mem_cons_of_mem _ t_2147)) (fun _ h9 => h9) 3 rfl dX14_goOver_323 ?_
                                      refine g_getk (C := RX12) (T := TX12) (N := 60) hx hb hts (mc_ inX12) hown hK g rfl 19 (by decide) rfl (hts _ (List.mem_cons_of_mem _ t_1944)) (fun _ h9 => h9) 0 rfl dX14_goOver_326 ?_
                                      refine lv_iload hx hb dX14_goOver_329 (lv_at hl 7 rfl) ?_
                                      refine g_iald hx hb hK g ma_97 ka_97 (by decide) rfl (in_bd bx_96 (by decide)) dX14_goOver_331 (fun x_514 bx_514 cx_514 => ?_)
                                      obtain rfl : x_509 = x_514 := el_same cx_509 cx_514 rfl
                                      refine lv_iconst (v := 2) hx hb dX14_goOver_332 (by decide) ?_
                                      refine lv_icmp_le (tgt := 351) hx hb dX14_goOver_333 (by decide) (fun c_515 => ?_) (fun c_515 => ?_)
                                      · have fc_515 := le_f c_515
                                        refine lv_iconst (v := 0) hx hb dX14_goOver_351 (by decide) ?_
                                        refine lv_istore (lv' := [(14, .int 0), (13, .int 0), (12, .int 0), (11, .int v240_11), (10, .int v230_10), (9, .int r_445), (8, .int r_328), (7, .int r_210), (6, .int x_96), (5, .int v116_5), (4, .int k_), (3, .int r_), (0, .ref a0_), (1, .int x1_), (2, .int x2_)]) hx hb dX14_goOver_352 hl (by decide) rfl (fun ls hl => ?_)
                                        have hl9 := lv_sub hl [0, 1, 2, 3, 4, 5, 6, 7, 8, 9, 10, 11, 12, 13, 14] (by rfl : lv_pick [(14, .int 0), (13, .int 0), (12, .int 0), (11, .int v240_11), (10, .int v230_10), (9, .int r_445), (8, .int r_328), (7, .int r_210), (6, .int x_96), (5, .int v116_5), (4, .int k_), (3, .int r_), (0, .ref a0_), (1, .int x1_), (2, .int x2_)] [0, 1, 2, 3, 4, 5, 6, 7, 8, 9, 10, 11, 12, 13, 14] = [(14, .int 0), (13, .int 0), (12, .int 0), (11, .int v240_11), (10, .int v230_10), (9, .int r_445), (8, .int r_328), (7, .int r_210), (6, .int x_96), (5, .int v116_5), (4, .int k_), (3, .int r_), (0, .ref a0_), (1, .int x1_), (2, .int x2_)])
                                        have g9 := g.sub (fx' := [(12, 19, q0_, .ref a_97), (12, 14, q0_, .ref a_91), (12, 15, q0_, .ref a_43), (14, 1, a0_, .ref q0_), (14, 51, a0_, .int r_), (14, 52, a0_, .int k_)]) [0, 1, 2, 3, 4, 5] rfl
                                        exact join_468 0 0 0 _ _ _ _  g9 hG240_V_q0_ hG240_m_q0_ hG240_t_a0_ hG240_o_a0_ hW240 hl9
                                      · have fc_515 := nle_f c_515
                                        have b_516 : bd 2 (-1) (2 : Int32) := ltL fc_515 kb_2 b_511 (by decide)
                                        exact bd_no (eqX rfl b_516 kb_2 (lo := 2) (hi := (-1)) (by decide)) (by decide)
                                    · have fc_513 := nle_f c_513
                                      have b_517 : bd 1 (-1) (1 : Int32) := ltL fc_513 kb_1 b_511 (by decide)
                                      exact bd_no (eqX rfl b_517 kb_1 (lo := 1) (hi := (-1)) (by decide)) (by decide)
                                  · have fc_510 := nle_f c_510
                                    have b_518 : bd 1 3 x_509 := ltR fc_510 kb_0 bx_509 (by decide)
                                    refine lv_aload_n hx hb dX14_goOver_266 rfl (lv_at hl 9 rfl) ?_
                                    refine lv_iload hx hb dX14_goOver_267 (lv_at hl 5 rfl) ?_
                                    refine lv_iconst (v := 0) hx hb dX14_goOver_269 (by decide) ?_
                                    refine lv_iload hx hb dX14_goOver_270 (lv_at hl 0 rfl) ?_
                                    refine lv_iload hx hb dX14_goOver_272 (lv_at hl 3 rfl) ?_
                                    refine lv_iload hx hb dX14_goOver_274 (lv_at hl 2 rfl) ?_
                                    refine lv_imul hx hb dX14_goOver_276 ?_
                                    refine lv_topi (fun y_519 ey_519 => ?_)
                                    have b_520 : bd 1 9 y_519 := mul_rg ey_519 h_329 h_446 (by decide)
                                    refine lv_idiv hx hb dX14_goOver_277 (nz_bd b_520 (Or.inl (by decide))) ?_
                                    refine lv_topi (fun y_521 ey_521 => ?_)
                                    have b_522 : bd 0 26 y_521 := div_rg2 ey_521 b_467 b_520 (by decide)
                                    have go_ := g
                                    refine g_calli (va_runV (As := [.int x_96, .int 0, .int y_521]) (rest := []) ⟨hx, hb, hml, hown, hts⟩ (r_X14_valueOf_16 l dC dI L kd tys f H.size g.2.2.2.1 a0_ ma0_ ka0_ x_96 bx_96 0 kb_0 y_521 b_522 r_ b_32 k_ b_457 (g.fcts [4, 5] rfl)) (cwV 3 hts (gV_ t_2764 t_2766 t_175 t_198 t_2767) rfl rfl rfl (by decide +kernel) ⟨(show 0 + 1 ≤ N + 1 + 980 by omega), (show 8 + (6 + 11) + 0 ≤ 60 * (N + 1) + 39317 by omega)⟩) (pre3V g hK ma0_ ka0_ (by decide) (q := (RX14, TX14, 67)) rfl) rfl rfl hl.1 rfl (lv_room (Nat.le_of_ble_eq_true rfl)) dX14_goOver_278 ⟨(Nat.le_of_ble_eq_true rfl), (Nat.le_of_ble_eq_true rfl)⟩) g hK (by decide) (by decide) (fx' := [(12, 19, q0_, .ref a_97), (12, 14, q0_, .ref a_91), (12, 15, q0_, .ref a_43), (14, 1, a0_, .ref q0_), (14, 51, a0_, .int r_), (14, 52, a0_, .int k_)]) rfl (fun r_523 fr_523 H locs hp hMr_523 g => ?_)
                                    have hG_524 := isV.frame hMr_523 go_.2.2.2.1 mq0_ kq0_ (by decide) (by decide) hG240_V_q0_
                                    have hG_525 := mOK.frame hMr_523 go_.2.2.2.1 mq0_ kq0_ (by decide) (by decide) hG240_m_q0_
                                    have hG_526 := tOK.frame hMr_523 go_.2.2.2.1 ma0_ ka0_ (by decide) (by decide) hG240_t_a0_
                                    have hG_527 := oOK.frame hMr_523 go_.2.2.2.1 ma0_ ka0_ (by decide) (by decide) hG240_o_a0_
                                    have hG_528 := isW.frame hMr_523 go_.2.2.2.1 ma0_ ka0_ (by decide) (by decide) hW240
                                    refine lv_goto (tgt := 285) hx hb dX14_goOver_281 (by decide) ?_
                                    refine lv_istore (lv' := [(12, .int r_523), (11, .int v240_11), (10, .int v230_10), (9, .int r_445), (8, .int r_328), (7, .int r_210), (6, .int x_96), (5, .int v116_5), (4, .int k_), (3, .int r_), (0, .ref a0_), (1, .int x1_), (2, .int x2_)]) hx hb dX14_goOver_285 hl (by decide) rfl (fun ls hl => ?_)
                                    refine lv_aload_n hx hb dX14_goOver_287 rfl (lv_at hl 10 rfl) ?_
                                    refine g_getk (C := RX14) (T := TX14) (N := 67) hx hb hts (mc_ inX14) hown hK g rfl 1 (by decide) rfl (hts _ (List.mem_cons_of_mem _ t_2147)) (fun _ h9 => h9) 3 rfl dX14_goOver_288 ?_
                                    refine g_getk (C := RX12) (T := TX12) (N := 60) hx hb hts (mc_ inX12) hown hK g rfl 19 (by decide) rfl (hts _ (List.mem_cons_of_mem _ t_1944)) (fun _ h9 => h9) 0 rfl dX14_goOver_291 ?_
                                    refine lv_iload hx hb dX14_goOver_294 (lv_at hl 6 rfl) ?_
                                    refine g_iald hx hb hK g ma_97 ka_97 (by decide) rfl (in_bd bx_96 (by decide)) dX14_goOver_296 (fun x_529 bx_529 cx_529 => ?_)
                                    obtain rfl : x_509 = x_529 := el_same cx_509 cx_529 (arr_eq hMr_523 ma_97 ka_97 (by decide) rfl)
                                    refine lv_iconst (v := 1) hx hb dX14_goOver_297 (by decide) ?_
                                    refine lv_icmp_le (tgt := 319) hx hb dX14_goOver_298 (by decide) (fun c_530 => ?_) (fun c_530 => ?_)
                                    · have fc_530 := le_f c_530
                                      have b_531 : bd 1 1 x_509 := leL fc_530 b_518 kb_1 (by decide)
                                      refine lv_iconst (v := 0) hx hb dX14_goOver_319 (by decide) ?_
                                      refine lv_istore (lv' := [(13, .int 0), (12, .int r_523), (11, .int v240_11), (10, .int v230_10), (9, .int r_445), (8, .int r_328), (7, .int r_210), (6, .int x_96), (5, .int v116_5), (4, .int k_), (3, .int r_), (0, .ref a0_), (1, .int x1_), (2, .int x2_)]) hx hb dX14_goOver_320 hl (by decide) rfl (fun ls hl => ?_)
                                      refine lv_aload_n hx hb dX14_goOver_322 rfl (lv_at hl 11 rfl) ?_
                                      refine g_getk (C := RX14) (T := TX14) (N := 67) hx hb hts (mc_ inX14) hown hK g rfl 1 (by decide) rfl (hts _ (List.mem_cons_of_mem _ t_2147)) (fun _ h9 => h9) 3 rfl dX14_goOver_323 ?_
                                      refine g_getk (C := RX12) (T := TX12) (N := 60) hx hb hts (mc_ inX12) hown hK g rfl 19 (by decide) rfl (hts _ (List.mem_cons_of_mem _ t_1944)) (fun _ h9 => h9) 0 rfl dX14_goOver_326 ?_
                                      refine lv_iload hx hb dX14_goOver_329 (lv_at hl 7 rfl) ?_
                                      refine g_iald hx hb hK g ma_97 ka_97 (by decide) rfl (in_bd bx_96 (by decide)) dX14_goOver_331 (fun x_532 bx_532 cx_532 => ?_)
                                      obtain rfl : x_509 = x_532 := el_same cx_509 cx_532 (arr_eq hMr_523 ma_97 ka_97 (by decide) rfl)
                                      refine lv_iconst (v := 2) hx hb dX14_goOver_332 (by decide) ?_
                                      refine lv_icmp_le (tgt := 351) hx hb dX14_goOver_333 (by decide) (fun c_533 => ?_) (fun c_533 => ?_)
                                      · have fc_533 := le_f c_533
                                        refine lv_iconst (v := 0) hx hb dX14_goOver_351 (by decide) ?_
                                        refine lv_istore (lv' := [(14, .int 0), (13, .int 0), (12, .int r_523), (11, .int v240_11), (10, .int v230_10), (9, .int r_445), (8, .int r_328), (7, .int r_210), (6, .int x_96), (5, .int v116_5), (4, .int k_), (3, .int r_), (0, .ref a0_), (1, .int x1_), (2, .int x2_)]) hx hb dX14_goOver_352 hl (by decide) rfl (fun ls hl => ?_)
                                        have hl9 := lv_sub hl [0, 1, 2, 3, 4, 5, 6, 7, 8, 9, 10, 11, 12, 13, 14] (by rfl : lv_pick [(14, .int 0), (13, .int 0), (12, .int r_523), (11, .int v240_11), (10, .int v230_10), (9, .int r_445), (8, .int r_328), (7, .int r_210), (6, .int x_96), (5, .int v116_5), (4, .int k_), (3, .int r_), (0, .ref a0_), (1, .int x1_), (2, .int x2_)] [0, 1, 2, 3, 4, 5, 6, 7, 8, 9, 10, 11, 12, 13, 14] = [(14, .int 0), (13, .int 0), (12, .int r_523), (11, .int v240_11), (10, .int v230_10), (9, .int r_445), (8, .int r_328), (7, .int r_210), (6, .int x_96), (5, .int v116_5), (4, .int k_), (3, .int r_), (0, .ref a0_), (1, .int x1_), (2, .int x2_)])
                                        have g9 := g.sub (fx' := [(12, 19, q0_, .ref a_97), (12, 14, q0_, .ref a_91), (12, 15, q0_, .ref a_43), (14, 1, a0_, .ref q0_), (14, 51, a0_, .int r_), (14, 52, a0_, .int k_)]) [0, 1, 2, 3, 4, 5] rfl
                                        exact join_468 0 0 r_523 _ _ _ _  g9 hG_524 hG_525 hG_526 hG_527 hG_528 hl9
                                      · have fc_533 := nle_f c_533
                                        have b_534 : bd 2 0 (2 : Int32) := ltL fc_533 kb_2 b_531 (by decide)
                                        exact bd_no (eqX rfl b_534 kb_2 (lo := 2) (hi := 0) (by decide)) (by decide)
                                    · have fc_530 := nle_f c_530
                                      have b_535 : bd 2 3 x_509 := ltR fc_530 kb_1 b_518 (by decide)
                                      refine lv_aload_n hx hb dX14_goOver_301 rfl (lv_at hl 10 rfl) ?_
                                      refine lv_iload hx hb dX14_goOver_302 (lv_at hl 6 rfl) ?_
                                      refine lv_iconst (v := 1) hx hb dX14_goOver_304 (by decide) ?_
                                      refine lv_iload hx hb dX14_goOver_305 (lv_at hl 1 rfl) ?_
                                      refine lv_iload hx hb dX14_goOver_307 (lv_at hl 3 rfl) ?_
                                      refine lv_idiv hx hb dX14_goOver_309 (nz_bd h_446 (Or.inl (by decide))) ?_
                                      refine lv_topi (fun y_536 ey_536 => ?_)
                                      have b_537 : bd 0 26 y_536 := div_rg2 ey_536 b_467 h_446 (by decide)
                                      refine lv_iload hx hb dX14_goOver_310 (lv_at hl 4 rfl) ?_
                                      refine lv_irem hx hb dX14_goOver_312 (nz_bd h_329 (Or.inl (by decide))) ?_
                                      refine lv_topi (fun y_538 ey_538 => ?_)
                                      have b_539 : bd 0 2 y_538 := rem_rg ey_538 b_537 h_329 (by decide)
                                      have go_ := g
                                      refine g_calli (va_runV (As := [.int x_96, .int 1, .int y_538]) (rest := []) ⟨hx, hb, hml, hown, hts⟩ (r_X14_valueOf_10 l dC dI L kd tys fr_523 H.size g.2.2.2.1 a0_ ma0_ ka0_ x_96 bx_96 1 kb_1 y_538 b_539 r_ b_32 k_ b_457 (g.fcts [4, 5] rfl)) (cwV 3 hts (gV_ t_2764 t_2766 t_175 t_198 t_2767) rfl rfl rfl (by decide +kernel) ⟨(show 0 + 1 ≤ N + 1 + 980 by omega), (show 8 + (6 + 11) + 0 ≤ 60 * (N + 1) + 39317 by omega)⟩) (pre3V g hK ma0_ ka0_ (by decide) (q := (RX14, TX14, 67)) rfl) rfl rfl hl.1 rfl (lv_room (Nat.le_of_ble_eq_true rfl)) dX14_goOver_313 ⟨(Nat.le_of_ble_eq_true rfl), (Nat.le_of_ble_eq_true rfl)⟩) g hK (by decide) (by decide) (fx' := [(12, 19, q0_, .ref a_97), (12, 14, q0_, .ref a_91), (12, 15, q0_, .ref a_43), (14, 1, a0_, .ref q0_), (14, 51, a0_, .int r_), (14, 52, a0_, .int k_)]) rfl (fun r_540 fr_540 H locs hp hMr_540 g => ?_)
                                      have hG_541 := isV.frame hMr_540 go_.2.2.2.1 mq0_ kq0_ (by decide) (by decide) hG_524
                                      have hG_542 := mOK.frame hMr_540 go_.2.2.2.1 mq0_ kq0_ (by decide) (by decide) hG_525
                                      have hG_543 := tOK.frame hMr_540 go_.2.2.2.1 ma0_ ka0_ (by decide) (by decide) hG_526
                                      have hG_544 := oOK.frame hMr_540 go_.2.2.2.1 ma0_ ka0_ (by decide) (by decide) hG_527
                                      have hG_545 := isW.frame hMr_540 go_.2.2.2.1 ma0_ ka0_ (by decide) (by decide) hG_528
                                      refine lv_goto (tgt := 320) hx hb dX14_goOver_316 (by decide) ?_
                                      refine lv_istore (lv' := [(13, .int r_540), (12, .int r_523), (11, .int v240_11), (10, .int v230_10), (9, .int r_445), (8, .int r_328), (7, .int r_210), (6, .int x_96), (5, .int v116_5), (4, .int k_), (3, .int r_), (0, .ref a0_), (1, .int x1_), (2, .int x2_)]) hx hb dX14_goOver_320 hl (by decide) rfl (fun ls hl => ?_)
                                      refine lv_aload_n hx hb dX14_goOver_322 rfl (lv_at hl 11 rfl) ?_
                                      refine g_getk (C := RX14) (T := TX14) (N := 67) hx hb hts (mc_ inX14) hown hK g rfl 1 (by decide) rfl (hts _ (List.mem_cons_of_mem _ t_2147)) (fun _ h9 => h9) 3 rfl dX14_goOver_323 ?_
                                      refine g_getk (C := RX12) (T := TX12) (N := 60) hx hb hts (mc_ inX12) hown hK g rfl 19 (by decide) rfl (hts _ (List.mem_cons_of_mem _ t_1944)) (fun _ h9 => h9) 0 rfl dX14_goOver_326 ?_
                                      refine lv_iload hx hb dX14_goOver_329 (lv_at hl 7 rfl) ?_
                                      refine g_iald hx hb hK g ma_97 ka_97 (by decide) rfl (in_bd bx_96 (by decide)) dX14_goOver_331 (fun x_546 bx_546 cx_546 => ?_)
                                      obtain rfl : x_509 = x_546 := el_same cx_509 cx_546 ((arr_eq hMr_540 ma_97 ka_97 (by decide) rfl).trans (arr_eq hMr_523 ma_97 ka_97 (by decide) rfl))
                                      refine lv_iconst (v := 2) hx hb dX14_goOver_332 (by decide) ?_
                                      refine lv_icmp_le (tgt := 351) hx hb dX14_goOver_333 (by decide) (fun c_547 => ?_) (fun c_547 => ?_)
                                      · have fc_547 := le_f c_547
                                        have b_548 : bd 2 2 x_509 := leL fc_547 b_535 kb_2 (by decide)
                                        refine lv_iconst (v := 0) hx hb dX14_goOver_351 (by decide) ?_
                                        refine lv_istore (lv' := [(14, .int 0), (13, .int r_540), (12, .int r_523), (11, .int v240_11), (10, .int v230_10), (9, .int r_445), (8, .int r_328), (7, .int r_210), (6, .int x_96), (5, .int v116_5), (4, .int k_), (3, .int r_), (0, .ref a0_), (1, .int x1_), (2, .int x2_)]) hx hb dX14_goOver_352 hl (by decide) rfl (fun ls hl => ?_)
                                        have hl9 := lv_sub hl [0, 1, 2, 3, 4, 5, 6, 7, 8, 9, 10, 11, 12, 13, 14] (by rfl : lv_pick [(14, .int 0), (13, .int r_540), (12, .int r_523), (11, .int v240_11), (10, .int v230_10), (9, .int r_445), (8, .int r_328), (7, .int r_210), (6, .int x_96), (5, .int v116_5), (4, .int k_), (3, .int r_), (0, .ref a0_), (1, .int x1_), (2, .int x2_)] [0, 1, 2, 3, 4, 5, 6, 7, 8, 9, 10, 11, 12, 13, 14] = [(14, .int 0), (13, .int r_540), (12, .int r_523), (11, .int v240_11), (10, .int v230_10), (9, .int r_445), (8, .int r_328), (7, .int r_210), (6, .int x_96), (5, .int v116_5), (4, .int k_), (3, .int r_), (0, .ref a0_), (1, .int x1_), (2, .int x2_)])
                                        have g9 := g.sub (fx' := [(12, 19, q0_, .ref a_97), (12, 14, q0_, .ref a_91), (12, 15, q0_, .ref a_43), (14, 1, a0_, .ref q0_), (14, 51, a0_, .int r_), (14, 52, a0_, .int k_)]) [0, 1, 2, 3, 4, 5] rfl
                                        exact join_468 0 r_540 r_523 _ _ _ _  g9 hG_541 hG_542 hG_543 hG_544 hG_545 hl9
                                      · have fc_547 := nle_f c_547
                                        have b_549 : bd 3 3 x_509 := ltR fc_547 kb_2 b_535 (by decide)
                                        refine lv_aload_n hx hb dX14_goOver_336 rfl (lv_at hl 11 rfl) ?_
                                        refine lv_iload hx hb dX14_goOver_337 (lv_at hl 7 rfl) ?_
                                        refine lv_iconst (v := 2) hx hb dX14_goOver_339 (by decide) ?_
                                        refine lv_iload hx hb dX14_goOver_340 (lv_at hl 2 rfl) ?_
                                        refine lv_iload hx hb dX14_goOver_342 (lv_at hl 4 rfl) ?_
                                        refine lv_irem hx hb dX14_goOver_344 (nz_bd h_446 (Or.inl (by decide))) ?_
                                        refine lv_topi (fun y_550 ey_550 => ?_)
                                        have b_551 : bd 0 2 y_550 := rem_rg ey_550 b_467 h_446 (by decide)
                                        have go_ := g
                                        refine g_calli (va_runV (As := [.int x_96, .int 2, .int y_550]) (rest := []) ⟨hx, hb, hml, hown, hts⟩ (r_X14_valueOf_14 l dC dI L kd tys fr_540 H.size g.2.2.2.1 a0_ ma0_ ka0_ x_96 bx_96 2 kb_2 y_550 b_551 r_ b_32 k_ b_457 (g.fcts [4, 5] rfl)) (cwV 3 hts (gV_ t_2764 t_2766 t_175 t_198 t_2767) rfl rfl rfl (by decide +kernel) ⟨(show 0 + 1 ≤ N + 1 + 980 by omega), (show 8 + (6 + 11) + 0 ≤ 60 * (N + 1) + 39317 by omega)⟩) (pre3V g hK ma0_ ka0_ (by decide) (q := (RX14, TX14, 67)) rfl) rfl rfl hl.1 rfl (lv_room (Nat.le_of_ble_eq_true rfl)) dX14_goOver_345 ⟨(Nat.le_of_ble_eq_true rfl), (Nat.le_of_ble_eq_true rfl)⟩) g hK (by decide) (by decide) (fx' := [(12, 19, q0_, .ref a_97), (12, 14, q0_, .ref a_91), (12, 15, q0_, .ref a_43), (14, 1, a0_, .ref q0_), (14, 51, a0_, .int r_), (14, 52, a0_, .int k_)]) rfl (fun r_552 fr_552 H locs hp hMr_552 g => ?_)
                                        have hG_553 := isV.frame hMr_552 go_.2.2.2.1 mq0_ kq0_ (by decide) (by decide) hG_541
                                        have hG_554 := mOK.frame hMr_552 go_.2.2.2.1 mq0_ kq0_ (by decide) (by decide) hG_542
                                        have hG_555 := tOK.frame hMr_552 go_.2.2.2.1 ma0_ ka0_ (by decide) (by decide) hG_543
                                        have hG_556 := oOK.frame hMr_552 go_.2.2.2.1 ma0_ ka0_ (by decide) (by decide) hG_544
                                        have hG_557 := isW.frame hMr_552 go_.2.2.2.1 ma0_ ka0_ (by decide) (by decide) hG_545
                                        refine lv_goto (tgt := 352) hx hb dX14_goOver_348 (by decide) ?_
                                        refine lv_istore (lv' := [(14, .int r_552), (13, .int r_540), (12, .int r_523), (11, .int v240_11), (10, .int v230_10), (9, .int r_445), (8, .int r_328), (7, .int r_210), (6, .int x_96), (5, .int v116_5), (4, .int k_), (3, .int r_), (0, .ref a0_), (1, .int x1_), (2, .int x2_)]) hx hb dX14_goOver_352 hl (by decide) rfl (fun ls hl => ?_)
                                        have hl9 := lv_sub hl [0, 1, 2, 3, 4, 5, 6, 7, 8, 9, 10, 11, 12, 13, 14] (by rfl : lv_pick [(14, .int r_552), (13, .int r_540), (12, .int r_523), (11, .int v240_11), (10, .int v230_10), (9, .int r_445), (8, .int r_328), (7, .int r_210), (6, .int x_96), (5, .int v116_5), (4, .int k_), (3, .int r_), (0, .ref a0_), (1, .int x1_), (2, .int x2_)] [0, 1, 2, 3, 4, 5, 6, 7, 8, 9, 10, 11, 12, 13, 14] = [(14, .int r_552), (13, .int r_540), (12, .int r_523), (11, .int v240_11), (10, .int v230_10), (9, .int r_445), (8, .int r_328), (7, .int r_210), (6, .int x_96), (5, .int v116_5), (4, .int k_), (3, .int r_), (0, .ref a0_), (1, .int x1_), (2, .int x2_)])
                                        have g9 := g.sub (fx' := [(12, 19, q0_, .ref a_97), (12, 14, q0_, .ref a_91), (12, 15, q0_, .ref a_43), (14, 1, a0_, .ref q0_), (14, 51, a0_, .int r_), (14, 52, a0_, .int k_)]) [0, 1, 2, 3, 4, 5] rfl
                                        exact join_468 r_552 r_540 r_523 _ _ _ _  g9 hG_553 hG_554 hG_555 hG_556 hG_557 hl9
                            have hl9 := lv_sub hl [0, 1, 2, 3, 4, 5, 6, 7, 8, 9, 10, 11] (by rfl : lv_pick [(11, .int 0), (10, .int v230_10), (9, .int r_445), (8, .int r_328), (7, .int r_210), (6, .int x_96), (5, .int v116_5), (4, .int k_), (3, .int r_), (0, .ref a0_), (1, .int x1_), (2, .int x2_)] [0, 1, 2, 3, 4, 5, 6, 7, 8, 9, 10, 11] = [(11, .int 0), (10, .int v230_10), (9, .int r_445), (8, .int r_328), (7, .int r_210), (6, .int x_96), (5, .int v116_5), (4, .int k_), (3, .int r_), (0, .ref a0_), (1, .int x1_), (2, .int x2_)])
                            have g9 := g.sub (fx' := [(12, 19, q0_, .ref a_97), (12, 14, q0_, .ref a_91), (12, 15, q0_, .ref a_43), (14, 1, a0_, .ref q0_), (14, 51, a0_, .int r_), (14, 52, a0_, .int k_)]) [0, 1, 2, 3, 4, 5] rfl
                            exact loop_458 (57) 0 (bd_sub kb_0 (by decide)) (by have h9_0 := kb_0; unfold bd at h9_0; have h9_1 := kb_1; unfold bd at h9_1; have h9_2 := kb_2; unfold bd at h9_2; have h9_3 := kb_m1; unfold bd at h9_3; omega) _ _ _ _ g9 hG230_V_q0_ hG230_m_q0_ hG230_t_a0_ hG230_o_a0_ ⟨_, hW230, hI230, hp230⟩ hl9
                      have hl9 := lv_sub hl [0, 1, 2, 3, 4, 5, 6, 7, 8, 9, 10] (by rfl : lv_pick [(10, .int 0), (9, .int r_445), (8, .int r_328), (7, .int r_210), (6, .int x_96), (5, .int v116_5), (4, .int k_), (3, .int r_), (0, .ref a0_), (1, .int x1_), (2, .int x2_)] [0, 1, 2, 3, 4, 5, 6, 7, 8, 9, 10] = [(10, .int 0), (9, .int r_445), (8, .int r_328), (7, .int r_210), (6, .int x_96), (5, .int v116_5), (4, .int k_), (3, .int r_), (0, .ref a0_), (1, .int x1_), (2, .int x2_)])
                      have g9 := g.sub (fx' := [(12, 19, q0_, .ref a_97), (12, 14, q0_, .ref a_91), (12, 15, q0_, .ref a_43), (14, 1, a0_, .ref q0_), (14, 51, a0_, .int r_), (14, 52, a0_, .int k_)]) [0, 1, 2, 3, 4, 5] rfl
                      exact loop_452 (9) 0 (bd_sub kb_0 (by decide)) (by have h9_0 := kb_0; unfold bd at h9_0; have h9_1 := kb_1; unfold bd at h9_1; have h9_2 := kb_2; unfold bd at h9_2; have h9_3 := kb_m1; unfold bd at h9_3; omega) _ _ _ _ g9 hG_447 hG_448 hG_449 hG_450 ⟨_, hG_451, hI116, hp116⟩ hl9
          have hl9 := lv_sub hl [0, 1, 2, 3, 4, 5] (by rfl : lv_pick [(5, .int 0), (4, .int k_), (3, .int r_), (0, .ref a0_), (1, .int x1_), (2, .int x2_)] [0, 1, 2, 3, 4, 5] = [(5, .int 0), (4, .int k_), (3, .int r_), (0, .ref a0_), (1, .int x1_), (2, .int x2_)])
          have g9 := g.sub (fx' := [(14, 1, a0_, .ref q0_), (14, 51, a0_, .int r_), (14, 52, a0_, .int k_)]) [1, 2, 3] rfl
          exact loop_42 (27) 0 (bd_sub kb_0 (by decide)) (by have h9_0 := kb_0; unfold bd at h9_0; have h9_1 := kb_m1; unfold bd at h9_1; omega) _ _ _ _ g9 hG_36 hG_38 hG_39 hx_34 ⟨_, hG_37, hrw, (pfx.rf (r := r_))⟩ hl9
        · have fc_41 := eq_f c_41
          have b_558 : bd 1 0 r_ := eqX fc_41 b_32 kb_0 (by decide)
          exact bd_no b_558 (by decide)
      · have fc_40 := eq_f c_40
        have b_559 : bd (-1) (-1) r_33 := eqX fc_40 (bdT r_33) kb_m1 (by decide)
        refine lv_iconst (v := 0) hx hb dX14_goOver_81 (by decide) ?_
        subst hQ
        exact W.zret (v := 0) hx hb hr (nar_z (bd_sub kb_0 (by decide) : bd 0 1 _).1 (bd_sub kb_0 (by decide) : bd 0 1 _).2) (fun t ht hW => ⟨⟨_, _, rfl, ⟨hx_34, hG_39, ⟨_, hG_37, (pfx.rf (r := r_)), rw_at g 2 3 rfl rfl hrw⟩, (bd_sub kb_0 (by decide)), trivial⟩, q3_of g hK ht hW⟩, g.2.2.1.F ht⟩) g.2.2.1.2.2 dX14_goOver_82
  · have fc_1 := eq_f c_1
    have b_560 : bd 1 4 r_ := eqX fc_1 br_ bx2_ (by decide)
    refine lv_aload_n hx hb dX14_goOver_8 rfl (lv_at hl 0 rfl) ?_
    refine g_geti (C := RX14) (T := TX14) (N := 67) hx hb hts (mc_ inX14) hown hK g ma0_ ka0_ (by decide) rfl 58 (by decide) rfl (hts _ (List.mem_cons_of_mem _ t_2204)) (fun _ h9 => h9) rfl dX14_goOver_9 (fun x_561 bx_561 g => ?_)
    refine lv_sipush (v := 600) hx hb dX14_goOver_12 (by decide) ?_
    have kb_600 : bd 600 600 (600 : Int32) := ⟨by decide, by decide⟩
    refine lv_icmp_ne (tgt := 20) hx hb dX14_goOver_15 (by decide) (fun c_562 => ?_) (fun c_562 => ?_)
    · have fc_562 := neq_f c_562
      refine lv_aload_n hx hb dX14_goOver_20 rfl (lv_at hl 0 rfl) ?_
      refine lv_aload_n hx hb dX14_goOver_21 rfl (lv_at hl 0 rfl) ?_
      have go_ := g
      refine g_calli (va_runV (As := []) (rest := [.ref a0_]) ⟨hx, hb, hml, hown, hts⟩ (r_X14_isTried l dC dI L kd tys f0 s.heap.size g.2.2.2.1 adK adV a0_ ma0_ ka0_ q0_ mq0_ kq0_ r_ (bd_sub b_560 (by decide)) k_ bk_ V_ δ_ hW (fun j => aI f0 (rf f0 a0_ 27) j) RW_ OA.refl hWW hV hmo hrw (g.fcts [1, 2, 3] rfl)) (cwV 0 hts (gV_ t_2743 t_2745 t_171 t_198 t_2746) rfl rfl rfl (by decide +kernel) ⟨(show 977 + 1 ≤ N + 1 + 980 by omega), (show 8 + (2 + 11) + 39117 ≤ 60 * (N + 1) + 39317 by omega)⟩) (pre3VA g hK hAm ma0_ ka0_ (by decide) (q := (RX14, TX14, 67)) rfl) rfl rfl hl.1 rfl (lv_room (Nat.le_of_ble_eq_true rfl)) dX14_goOver_22 ⟨(Nat.le_of_ble_eq_true rfl), (Nat.le_of_ble_eq_true rfl)⟩) g hK (by decide) (by decide) (fx' := [(14, 1, a0_, .ref q0_), (14, 51, a0_, .int r_), (14, 52, a0_, .int k_)]) rfl (fun r_563 fr_563 H locs hp hMr_563 g => ?_)
      rcases hp with ⟨hx_564, h_565, hF_566⟩ | ⟨hx_567, h_568, hF_569⟩
      · have hG_570 := isV.frame hMr_563 go_.2.2.2.1 mq0_ kq0_ (by decide) (by decide) hV
        have hG_571 := isW.frame hMr_563 go_.2.2.2.1 ma0_ ka0_ (by decide) (by decide) hWW
        have hG_572 := mOK.frame hMr_563 go_.2.2.2.1 mq0_ kq0_ (by decide) (by decide) hmo
        have hG_573 := tOK.frame hMr_563 go_.2.2.2.1 ma0_ ka0_ (by decide) (by decide) htk
        obtain rfl : r_563 = 0 := h_565
        have g := g.more hF_566
        refine lv_if_eq (tgt := 35) hx hb dX14_goOver_25 (by decide) (fun c_ => ?_) (fun c_ => absurd (by decide) c_)
        refine lv_iconst (v := 0) hx hb dX14_goOver_35 (by decide) ?_
        have kb_0 : bd 0 0 (0 : Int32) := ⟨by decide, by decide⟩
        have go_ := g
        refine g_put (C := RX14) (T := TX14) (N := 67) hx hb hts (mc_ inX14) tyX14 tyX14_ok nmX14 hown hK g ma0_ ka0_ (by decide) rfl 61 (by decide) (hts _ (List.mem_cons_of_mem _ t_2207)) (fun _ h9 => h9) rfl rfl (okV_i (bd_sub kb_0 (by decide))) rfl rfl (by decide) (Or.inr (Or.inl (by decide))) (fx' := [(14, 53, a0_, .int 0), (14, 1, a0_, .ref q0_), (14, 51, a0_, .int r_), (14, 52, a0_, .int k_)]) rfl dX14_goOver_36 (fun f H locs hM_574 g => ?_)
        have hG_575 := isV.frame hM_574 go_.2.2.2.1 mq0_ kq0_ (by decide) (by decide) hG_570
        have hG_576 := isW.frame hM_574 go_.2.2.2.1 ma0_ ka0_ (by decide) (by decide) hG_571
        have hG_577 := mOK.frame hM_574 go_.2.2.2.1 mq0_ kq0_ (by decide) (by decide) hG_572
        have hG_578 := tOK.frame hM_574 go_.2.2.2.1 ma0_ ka0_ (by decide) (by decide) hG_573
        have hG_579 := oOK.frame hM_574 go_.2.2.2.1 ma0_ ka0_ (by decide) (by decide) hx_564
        refine lv_aload_n hx hb dX14_goOver_39 rfl (lv_at hl 0 rfl) ?_
        have go_ := g
        refine g_callv (va_runV (As := []) (rest := []) ⟨hx, hb, hml, hown, hts⟩ (r_X14_keepRow l dC dI L kd tys f H.size g.2.2.2.1 a0_ ma0_ ka0_ q0_ mq0_ kq0_ r_ (bd_sub b_560 (by decide)) k_ bk_ V_ δ_ hW RW_ hG_576 hG_575 hrw (g.fcts [2, 3, 4] rfl)) (cwV 0 hts (gV_ t_2756 t_2758 t_173 t_198 t_2759) rfl rfl rfl (by decide +kernel) ⟨(show 0 + 1 ≤ N + 1 + 980 by omega), (show 8 + (2 + 11) + 0 ≤ 60 * (N + 1) + 39317 by omega)⟩) (pre3V g hK ma0_ ka0_ (by decide) (q := (RX14, TX14, 67)) rfl) rfl rfl hl.1 rfl (lv_room (Nat.le_of_ble_eq_true rfl)) dX14_goOver_40 ⟨(Nat.le_of_ble_eq_true rfl), (Nat.le_of_ble_eq_true rfl)⟩) g hK (by decide) (by decide) (fx' := [(14, 61, a0_, .int 0), (14, 53, a0_, .int 0), (14, 1, a0_, .ref q0_), (14, 51, a0_, .int r_), (14, 52, a0_, .int k_)]) rfl (fun fr_580 H locs hp hMr_580 g => ?_)
        obtain ⟨hx_581, hF_582⟩ := hp
        have hG_583 := isV.frame hMr_580 go_.2.2.2.1 mq0_ kq0_ (by decide) (by decide) hG_575
        have hG_584 := isW.frame hMr_580 go_.2.2.2.1 ma0_ ka0_ (by decide) (by decide) hG_576
        have hG_585 := mOK.frame hMr_580 go_.2.2.2.1 mq0_ kq0_ (by decide) (by decide) hG_577
        have hG_586 := oOK.frame hMr_580 go_.2.2.2.1 ma0_ ka0_ (by decide) (by decide) hG_579
        have g := g.more hF_582
        refine lv_aload_n hx hb dX14_goOver_43 rfl (lv_at hl 0 rfl) ?_
        refine g_getk (C := RX14) (T := TX14) (N := 67) hx hb hts (mc_ inX14) hown hK g rfl 61 (by decide) rfl (hts _ (List.mem_cons_of_mem _ t_2207)) (fun _ h9 => h9) 2 rfl dX14_goOver_44 ?_
        refine lv_if_gt (tgt := 60) hx hb dX14_goOver_47 (by decide) (fun c_ => absurd c_ (by decide)) (fun c_ => ?_)
        refine lv_aload_n hx hb dX14_goOver_50 rfl (lv_at hl 0 rfl) ?_
        refine g_geti (C := RX14) (T := TX14) (N := 67) hx hb hts (mc_ inX14) hown hK g ma0_ ka0_ (by decide) rfl 58 (by decide) rfl (hts _ (List.mem_cons_of_mem _ t_2204)) (fun _ h9 => h9) rfl dX14_goOver_51 (fun x_587 bx_587 g => ?_)
        refine lv_sipush (v := 600) hx hb dX14_goOver_54 (by decide) ?_
        refine lv_icmp_ne (tgt := 64) hx hb dX14_goOver_57 (by decide) (fun c_588 => ?_) (fun c_588 => ?_)
        · have fc_588 := neq_f c_588
          refine lv_iconst (v := 0) hx hb dX14_goOver_64 (by decide) ?_
          subst hQ
          exact W.zret (v := 0) hx hb hr (nar_z (bd_sub kb_0 (by decide) : bd 0 1 _).1 (bd_sub kb_0 (by decide) : bd 0 1 _).2) (fun t ht hW => ⟨⟨_, _, rfl, ⟨hG_586, (tOK.of hx_581 g 1 2 rfl rfl hrw), ⟨_, hG_584, (pfx.rf (r := r_)), rw_at g 6 7 rfl rfl hrw⟩, (bd_sub kb_0 (by decide)), trivial⟩, q3_of g hK ht hW⟩, g.2.2.1.F ht⟩) g.2.2.1.2.2 dX14_goOver_65
        · have fc_588 := eq_f c_588
          have b_589 : bd 600 600 x_587 := eqX fc_588 (bdT x_587) kb_600 (by decide)
          refine lv_iconst (v := 1) hx hb dX14_goOver_60 (by decide) ?_
          refine lv_goto (tgt := 65) hx hb dX14_goOver_61 (by decide) ?_
          have kb_1 : bd 1 1 (1 : Int32) := ⟨by decide, by decide⟩
          subst hQ
          exact W.zret (v := 1) hx hb hr (nar_z (bd_sub kb_1 (by decide) : bd 0 1 _).1 (bd_sub kb_1 (by decide) : bd 0 1 _).2) (fun t ht hW => ⟨⟨_, _, rfl, ⟨hG_586, (tOK.of hx_581 g 1 2 rfl rfl hrw), ⟨_, hG_584, (pfx.rf (r := r_)), rw_at g 6 7 rfl rfl hrw⟩, (bd_sub kb_1 (by decide)), trivial⟩, q3_of g hK ht hW⟩, g.2.2.1.F ht⟩) g.2.2.1.2.2 dX14_goOver_65
      · have hG_590 := isV.frame hMr_563 go_.2.2.2.1 mq0_ kq0_ (by decide) (by decide) hV
        have hG_591 := isW.frame hMr_563 go_.2.2.2.1 ma0_ ka0_ (by decide) (by decide) hWW
        have hG_592 := mOK.frame hMr_563 go_.2.2.2.1 mq0_ kq0_ (by decide) (by decide) hmo
        have hG_593 := tOK.frame hMr_563 go_.2.2.2.1 ma0_ ka0_ (by decide) (by decide) htk
        obtain rfl : r_563 = 1 := h_568
        have g := g.more hF_569
        refine lv_if_eq (tgt := 35) hx hb dX14_goOver_25 (by decide) (fun c_ => absurd c_ (by decide)) (fun c_ => ?_)
        refine lv_aload_n hx hb dX14_goOver_28 rfl (lv_at hl 0 rfl) ?_
        refine g_geti (C := RX14) (T := TX14) (N := 67) hx hb hts (mc_ inX14) hown hK g ma0_ ka0_ (by decide) rfl 55 (by decide) rfl (hts _ (List.mem_cons_of_mem _ t_2201)) (fun _ h9 => h9) rfl dX14_goOver_29 (fun x_594 bx_594 g => ?_)
        refine lv_goto (tgt := 36) hx hb dX14_goOver_32 (by decide) ?_
        have go_ := g
        refine g_put (C := RX14) (T := TX14) (N := 67) hx hb hts (mc_ inX14) tyX14 tyX14_ok nmX14 hown hK g ma0_ ka0_ (by decide) rfl 61 (by decide) (hts _ (List.mem_cons_of_mem _ t_2207)) (fun _ h9 => h9) rfl rfl (okV_i (bdT x_594)) rfl rfl (by decide) (Or.inr (Or.inl (by decide))) (fx' := [(14, 55, a0_, .int x_594), (14, 53, a0_, .int 0), (14, 1, a0_, .ref q0_), (14, 51, a0_, .int r_), (14, 52, a0_, .int k_)]) rfl dX14_goOver_36 (fun f H locs hM_595 g => ?_)
        have hG_596 := isV.frame hM_595 go_.2.2.2.1 mq0_ kq0_ (by decide) (by decide) hG_590
        have hG_597 := isW.frame hM_595 go_.2.2.2.1 ma0_ ka0_ (by decide) (by decide) hG_591
        have hG_598 := mOK.frame hM_595 go_.2.2.2.1 mq0_ kq0_ (by decide) (by decide) hG_592
        have hG_599 := tOK.frame hM_595 go_.2.2.2.1 ma0_ ka0_ (by decide) (by decide) hG_593
        have hG_600 := oOK.frame hM_595 go_.2.2.2.1 ma0_ ka0_ (by decide) (by decide) hx_567
        refine lv_aload_n hx hb dX14_goOver_39 rfl (lv_at hl 0 rfl) ?_
        have go_ := g
        refine g_callv (va_runV (As := []) (rest := []) ⟨hx, hb, hml, hown, hts⟩ (r_X14_keepRow l dC dI L kd tys f H.size g.2.2.2.1 a0_ ma0_ ka0_ q0_ mq0_ kq0_ r_ (bd_sub b_560 (by decide)) k_ bk_ V_ δ_ hW RW_ hG_597 hG_596 hrw (g.fcts [3, 4, 5] rfl)) (cwV 0 hts (gV_ t_2756 t_2758 t_173 t_198 t_2759) rfl rfl rfl (by decide +kernel) ⟨(show 0 + 1 ≤ N + 1 + 980 by omega), (show 8 + (2 + 11) + 0 ≤ 60 * (N + 1) + 39317 by omega)⟩) (pre3V g hK ma0_ ka0_ (by decide) (q := (RX14, TX14, 67)) rfl) rfl rfl hl.1 rfl (lv_room (Nat.le_of_ble_eq_true rfl)) dX14_goOver_40 ⟨(Nat.le_of_ble_eq_true rfl), (Nat.le_of_ble_eq_true rfl)⟩) g hK (by decide) (by decide) (fx' := [(14, 61, a0_, .int x_594), (14, 55, a0_, .int x_594), (14, 53, a0_, .int 0), (14, 1, a0_, .ref q0_), (14, 51, a0_, .int r_), (14, 52, a0_, .int k_)]) rfl (fun fr_601 H locs hp hMr_601 g => ?_)
        obtain ⟨hx_602, hF_603⟩ := hp
        have hG_604 := isV.frame hMr_601 go_.2.2.2.1 mq0_ kq0_ (by decide) (by decide) hG_596
        have hG_605 := isW.frame hMr_601 go_.2.2.2.1 ma0_ ka0_ (by decide) (by decide) hG_597
        have hG_606 := mOK.frame hMr_601 go_.2.2.2.1 mq0_ kq0_ (by decide) (by decide) hG_598
        have hG_607 := oOK.frame hMr_601 go_.2.2.2.1 ma0_ ka0_ (by decide) (by decide) hG_600
        have g := g.more hF_603
        refine lv_aload_n hx hb dX14_goOver_43 rfl (lv_at hl 0 rfl) ?_
        refine g_getk (C := RX14) (T := TX14) (N := 67) hx hb hts (mc_ inX14) hown hK g rfl 61 (by decide) rfl (hts _ (List.mem_cons_of_mem _ t_2207)) (fun _ h9 => h9) 2 rfl dX14_goOver_44 ?_
        have kb_0 : bd 0 0 (0 : Int32) := ⟨by decide, by decide⟩
        refine lv_if_gt (tgt := 60) hx hb dX14_goOver_47 (by decide) (fun c_608 => ?_) (fun c_608 => ?_)
        · have fc_608 := lt_f c_608
          have b_609 : bd 1 2147483647 x_594 := ltR fc_608 kb_0 (bdT x_594) (by decide)
          refine lv_iconst (v := 1) hx hb dX14_goOver_60 (by decide) ?_
          refine lv_goto (tgt := 65) hx hb dX14_goOver_61 (by decide) ?_
          have kb_1 : bd 1 1 (1 : Int32) := ⟨by decide, by decide⟩
          subst hQ
          exact W.zret (v := 1) hx hb hr (nar_z (bd_sub kb_1 (by decide) : bd 0 1 _).1 (bd_sub kb_1 (by decide) : bd 0 1 _).2) (fun t ht hW => ⟨⟨_, _, rfl, ⟨hG_607, (tOK.of hx_602 g 0 1 rfl rfl hrw), ⟨_, hG_605, (pfx.rf (r := r_)), rw_at g 6 7 rfl rfl hrw⟩, (bd_sub kb_1 (by decide)), trivial⟩, q3_of g hK ht hW⟩, g.2.2.1.F ht⟩) g.2.2.1.2.2 dX14_goOver_65
        · have fc_608 := nlt_f c_608
          have b_610 : bd (-2147483648) 0 x_594 := leL fc_608 (bdT x_594) kb_0 (by decide)
          refine lv_aload_n hx hb dX14_goOver_50 rfl (lv_at hl 0 rfl) ?_
          refine g_geti (C := RX14) (T := TX14) (N := 67) hx hb hts (mc_ inX14) hown hK g ma0_ ka0_ (by decide) rfl 58 (by decide) rfl (hts _ (List.mem_cons_of_mem _ t_2204)) (fun _ h9 => h9) rfl dX14_goOver_51 (fun x_611 bx_611 g => ?_)
          refine lv_sipush (v := 600) hx hb dX14_goOver_54 (by decide) ?_
          refine lv_icmp_ne (tgt := 64) hx hb dX14_goOver_57 (by decide) (fun c_612 => ?_) (fun c_612 => ?_)
          · have fc_612 := neq_f c_612
            refine lv_iconst (v := 0) hx hb dX14_goOver_64 (by decide) ?_
            subst hQ
            exact W.zret (v := 0) hx hb hr (nar_z (bd_sub kb_0 (by decide) : bd 0 1 _).1 (bd_sub kb_0 (by decide) : bd 0 1 _).2) (fun t ht hW => ⟨⟨_, _, rfl, ⟨hG_607, (tOK.of hx_602 g 1 2 rfl rfl hrw), ⟨_, hG_605, (pfx.rf (r := r_)), rw_at g 7 8 rfl rfl hrw⟩, (bd_sub kb_0 (by decide)), trivial⟩, q3_of g hK ht hW⟩, g.2.2.1.F ht⟩) g.2.2.1.2.2 dX14_goOver_65
          · have fc_612 := eq_f c_612
            have b_613 : bd 600 600 x_611 := eqX fc_612 (bdT x_611) kb_600 (by decide)
            refine lv_iconst (v := 1) hx hb dX14_goOver_60 (by decide) ?_
            refine lv_goto (tgt := 65) hx hb dX14_goOver_61 (by decide) ?_
            have kb_1 : bd 1 1 (1 : Int32) := ⟨by decide, by decide⟩
            subst hQ
            exact W.zret (v := 1) hx hb hr (nar_z (bd_sub kb_1 (by decide) : bd 0 1 _).1 (bd_sub kb_1 (by decide) : bd 0 1 _).2) (fun t ht hW => ⟨⟨_, _, rfl, ⟨hG_607, (tOK.of hx_602 g 1 2 rfl rfl hrw), ⟨_, hG_605, (pfx.rf (r := r_)), rw_at g 7 8 rfl rfl hrw⟩, (bd_sub kb_1 (by decide)), trivial⟩, q3_of g hK ht hW⟩, g.2.2.1.F ht⟩) g.2.2.1.2.2 dX14_goOver_65
    · have fc_562 := eq_f c_562
      have b_614 : bd 600 600 x_561 := eqX fc_562 (bdT x_561) kb_600 (by decide)
      refine lv_iconst (v := 1) hx hb dX14_goOver_18 (by decide) ?_
      have kb_1 : bd 1 1 (1 : Int32) := ⟨by decide, by decide⟩
      subst hQ
      exact W.zret (v := 1) hx hb hr (nar_z (bd_sub kb_1 (by decide) : bd 0 1 _).1 (bd_sub kb_1 (by decide) : bd 0 1 _).2) (fun t ht hW => ⟨⟨_, _, rfl, ⟨ho, htk, ⟨_, hWW, (pfx.rf (r := r_)), rw_at g 2 3 rfl rfl hrw⟩, (bd_sub kb_1 (by decide)), trivial⟩, q3_of g hK ht hW⟩, g.2.2.1.F ht⟩) g.2.2.1.2.2 dX14_goOver_19
