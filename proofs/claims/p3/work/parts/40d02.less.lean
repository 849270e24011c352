set_option maxHeartbeats 4000000 in
set_option maxRecDepth 100000 in
theorem r_X14_breaksAlike (l : Launch) (dC : Nat → ClassId) (dI : Nat → Nat → Nat) (L : List Nat) (kd : Nat → Nat) (tys : List (ClassId × FieldType)) (f0 : Nat → va_E) (sz : Nat) (hWT : WT L kd tys f0) (adK adV : Nat → Nat) (a0_ : Nat) (ma0_ : a0_ ∈ L) (ka0_ : kd a0_ = 14) (x1_ : Int32) (x2_ : Int32) (q0_ : Nat) (mq0_ : q0_ ∈ L) (kq0_ : kd q0_ = 12) (r_ : Int32) (br_ : bd 0 10 r_) (k_ : Int32) (bk_ : bd 0 3 k_) (V_ : PV) (δ_ : Nat → Nat) (hW : wfP V_ δ_) (O_ : Nat → Int32) (RW_ : RW) (hGOa0_ : OA f0 a0_ O_) (hGWa0_ : isW f0 a0_ RW_) (hGVq0_ : isV f0 q0_ V_) (hGmq0_ : mOK f0 q0_ V_) (hrw : rwOK V_ RW_ r_ k_) (hfx : Fs L kd f0 [(14, 1, a0_, .ref q0_), (14, 51, a0_, .int r_), (14, 52, a0_, .int k_)]) : Met l yX14_breaksAlike (.code yX14_breaksAlike cX14_breaksAlike 3 (some .boolean) :: lw_g) ({ frames := 977, cells := 0, slots := 0, locals := 39117 }) (va_Pc [.ref a0_, .int x1_, .int x2_] (P3A (dC, dI) L tys f0 sz adK adV)) (va_Qi (fun (r : Int32) (f : Nat → va_E) => ((oOK f a0_ V_) ∧ r = 0 ∧ Fs L kd f [(14, 53, a0_, .int 0)]) ∨ ((oOK f a0_ V_) ∧ r = 1 ∧ Fs L kd f [(14, 53, a0_, .int 0)])) (Q3 (dC, dI) L kd tys [(14, 30), (14, 31), (14, 32), (14, 33), (14, 34), (14, 35), (14, 36), (14, 37), (14, 38), (14, 39), (14, 40), (14, 45), (14, 53), (14, 55)] [200, 215, 216, 217, 218, 219, 220, 221, 225, 226, 228, 229] f0 sz) (pA L sz)) 0 0 (pA L sz) := by
  refine Met.ofW (cc := cX14_breaksAlike) (maxL := 3) (ret := (some .boolean)) (by decide) rfl ?_
  intro p e s m args below meth c s₁ B hml hv
  obtain ⟨rfl, ⟨hsz, hP, hK, hD0⟩, hAm⟩ := hv
  have hx := B.exec
  have hb := B.bytes
  have hr := B.returns
  have hts := atoms_spec (ws := (.code yX14_breaksAlike cX14_breaksAlike 3 (some .boolean) :: lw_g)) B.pre
  have hown : s.vm.findClass RX14 = some m.cls := findClass_of_methodNamed B.named
  have hlocks := B.notSynchronized
  subst hsz
  have g : G3 (dC, dI) L kd tys s f0 [(14, 30), (14, 31), (14, 32), (14, 33), (14, 34), (14, 35), (14, 36), (14, 37), (14, 38), (14, 39), (14, 40), (14, 45), (14, 53), (14, 55)] [200, 215, 216, 217, 218, 219, 220, 221, 225, 226, 228, 229] f0 s.heap [] [(14, 1, a0_, .ref q0_), (14, 51, a0_, .int r_), (14, 52, a0_, .int k_)] := G3.start hP hD0 hWT hfx
  have hl := lv_entry ([.ref a0_, .int x1_, .int x2_]) (n := 3) (Nat.le_of_ble_eq_true rfl)
  rw [lg_entry_eq]
  generalize (lg_sl ([.ref a0_, .int x1_, .int x2_]) ++ List.replicate (3 - (lg_sl ([.ref a0_, .int x1_, .int x2_])).length) Slot.unset).toArray = ls at hl ⊢
  have hl : lv_has ls 3 [(0, .ref a0_), (1, .int x1_), (2, .int x2_)] := hl
  refine W_q (fun Q hQ => ?_)
  refine lv_aload_n hx hb dX14_breaksAlike_0 rfl (lv_at hl 0 rfl) ?_
  have go_ := g
  refine g_calli (va_runV (As := []) (rest := []) ⟨hx, hb, hml, hown, hts⟩ (r_X14_runRow l dC dI L kd tys f0 s.heap.size g.2.2.2.1 adK adV a0_ ma0_ ka0_ q0_ mq0_ kq0_ r_ br_ k_ bk_ V_ δ_ hW O_ RW_ hGOa0_ hGWa0_ hGVq0_ hGmq0_ hrw (g.fcts [0, 1, 2] rfl)) (cwV 0 hts (gV_ t_2614 t_2616 t_141 t_198 t_2617) rfl rfl rfl (by decide +kernel) ⟨(Nat.le_of_ble_eq_true rfl), (Nat.le_of_ble_eq_true rfl)⟩) (pre3VA g hK hAm ma0_ ka0_ (by decide) (q := (RX14, TX14, 67)) rfl) rfl rfl hl.1 rfl (lv_room (Nat.le_of_ble_eq_true rfl)) dX14_breaksAlike_1 ⟨(Nat.le_of_ble_eq_true rfl), (Nat.le_of_ble_eq_true rfl)⟩) g hK (by decide) (by decide) (fx' := [(14, 1, a0_, .ref q0_), (14, 51, a0_, .int r_), (14, 52, a0_, .int k_)]) rfl (fun r_1 fr_1 H locs hp hMr_1 g => ?_)
  obtain ⟨hx_2, hF_3⟩ := hp
  have hG_4 := isW.frame hMr_1 go_.2.2.2.1 ma0_ ka0_ (by decide) (by decide) hGWa0_
  have hG_5 := isV.frame hMr_1 go_.2.2.2.1 mq0_ kq0_ (by decide) (by decide) hGVq0_
  have hG_6 := mOK.frame hMr_1 go_.2.2.2.1 mq0_ kq0_ (by decide) (by decide) hGmq0_
  have g := g.more hF_3
  refine lv_iload_n hx hb dX14_breaksAlike_4 rfl (lv_at hl 1 rfl) ?_
  refine lv_icmp_ne (tgt := 22) hx hb dX14_breaksAlike_5 (by decide) (fun c_7 => ?_) (fun c_7 => ?_)
  · have fc_7 := neq_f c_7
    refine lv_iconst (v := 0) hx hb dX14_breaksAlike_22 (by decide) ?_
    subst hQ
    have kb_0 : bd 0 0 (0 : Int32) := ⟨by decide, by decide⟩
    exact W.zret (v := 0) hx hb hr (nar_z (bd_sub kb_0 (by decide) : bd 0 1 _).1 (bd_sub kb_0 (by decide) : bd 0 1 _).2) (fun t ht hW => ⟨⟨_, _, rfl, Or.inl ⟨hx_2, rfl, (g.fcts [0] rfl)⟩, q3_of g hK ht hW⟩, g.2.2.1.F ht⟩) g.2.2.1.2.2 dX14_breaksAlike_23
  · have fc_7 := eq_f c_7
    refine lv_aload_n hx hb dX14_breaksAlike_8 rfl (lv_at hl 0 rfl) ?_
    refine g_getr (K := 228) (C := RX14) (T := TX14) (N := 67) hx hb hts (mc_ inX14) hown hK g ma0_ ka0_ (by decide) rfl 56 (by decide) rfl (hts _ (List.mem_cons_of_mem _ t_2202)) (fun _ h9 => h9) rfl dX14_breaksAlike_9 (fun a_8 ma_8 ka_8 g => ?_)
    refine lv_iconst (v := 2) hx hb dX14_breaksAlike_12 (by decide) ?_
    refine g_iald hx hb hK g ma_8 ka_8 (by decide) rfl (by unfold vp_in; decide) dX14_breaksAlike_13 (fun x_9 bx_9 cx_9 => ?_)
    refine lv_iload_n hx hb dX14_breaksAlike_14 rfl (lv_at hl 2 rfl) ?_
    refine lv_icmp_ne (tgt := 22) hx hb dX14_breaksAlike_15 (by decide) (fun c_10 => ?_) (fun c_10 => ?_)
    · have fc_10 := neq_f c_10
      refine lv_iconst (v := 0) hx hb dX14_breaksAlike_22 (by decide) ?_
      subst hQ
      have kb_0 : bd 0 0 (0 : Int32) := ⟨by decide, by decide⟩
      exact W.zret (v := 0) hx hb hr (nar_z (bd_sub kb_0 (by decide) : bd 0 1 _).1 (bd_sub kb_0 (by decide) : bd 0 1 _).2) (fun t ht hW => ⟨⟨_, _, rfl, Or.inl ⟨hx_2, rfl, (g.fcts [1] rfl)⟩, q3_of g hK ht hW⟩, g.2.2.1.F ht⟩) g.2.2.1.2.2 dX14_breaksAlike_23
    · have fc_10 := eq_f c_10
      refine lv_iconst (v := 1) hx hb dX14_breaksAlike_18 (by decide) ?_
      refine lv_goto (tgt := 23) hx hb dX14_breaksAlike_19 (by decide) ?_
      subst hQ
      have kb_1 : bd 1 1 (1 : Int32) := ⟨by decide, by decide⟩
      exact W.zret (v := 1) hx hb hr (nar_z (bd_sub kb_1 (by decide) : bd 0 1 _).1 (bd_sub kb_1 (by decide) : bd 0 1 _).2) (fun t ht hW => ⟨⟨_, _, rfl, Or.inr (⟨hx_2, rfl, (g.fcts [1] rfl)⟩), q3_of g hK ht hW⟩, g.2.2.1.F ht⟩) g.2.2.1.2.2 dX14_breaksAlike_23
