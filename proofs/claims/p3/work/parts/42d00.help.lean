set_option maxHeartbeats 4000000 in
set_option maxRecDepth 100000 in
theorem r_X14_strength_2 (l : Launch) (dC : Nat → ClassId) (dI : Nat → Nat → Nat) (L : List Nat) (kd : Nat → Nat) (tys : List (ClassId × FieldType)) (f0 : Nat → va_E) (sz : Nat) (hWT : WT L kd tys f0) (a0_ : Nat) (ma0_ : a0_ ∈ L) (ka0_ : kd a0_ = 14) : Met l yX14_strength (.code yX14_strength cX14_strength 1 (some .int) :: lw_g) ({ frames := 0, cells := 0, slots := 0, locals := 0 }) (va_Pc [.ref a0_] (P3 (dC, dI) L tys f0 sz)) (va_Qi (fun (r : Int32) (f : Nat → va_E) => (r = 0 ∧ True) ∨ (bd 1 5 r ∧ ∃ z0_ : Int32, bd 37 31868 z0_ ∧ ∃ z1_ : Int32, bd 4 4 z1_ ∧ Fs L kd f [(14, 7, a0_, .int z0_), (14, 6, a0_, .int z1_)])) (Q3 (dC, dI) L kd tys [] [] f0 sz) (pA L sz)) 0 0 (pA L sz) := by
  refine Met.ofW (cc := cX14_strength) (maxL := 1) (ret := (some .int)) (by decide) rfl ?_
  intro p e s m args below meth c s₁ B hml hv
  obtain ⟨rfl, hsz, hP, hK, hD0⟩ := hv
  have hx := B.exec
  have hb := B.bytes
  have hr := B.returns
  have hts := atoms_spec (ws := (.code yX14_strength cX14_strength 1 (some .int) :: lw_g)) B.pre
  have hown : s.vm.findClass RX14 = some m.cls := findClass_of_methodNamed B.named
  have hlocks := B.notSynchronized
  subst hsz
  have g : G3 (dC, dI) L kd tys s f0 [] [] f0 s.heap [] [] := G3.start hP hD0 hWT Fs.nil
  have hl := lv_entry ([.ref a0_]) (n := 1) (Nat.le_of_ble_eq_true rfl)
  rw [lg_entry_eq]
  generalize (lg_sl ([.ref a0_]) ++ List.replicate (1 - (lg_sl ([.ref a0_])).length) Slot.unset).toArray = ls at hl ⊢
  have hl : lv_has ls 1 [(0, .ref a0_)] := hl
  refine W_q (fun Q hQ => ?_)
  refine lv_aload_n hx hb dX14_strength_0 rfl (lv_at hl 0 rfl) ?_
  refine g_geti (C := RX14) (T := TX14) (N := 67) hx hb hts (mc_ inX14) hown hK g ma0_ ka0_ (by decide) rfl 6 (by decide) rfl (hts _ (List.mem_cons_of_mem _ t_2152)) (fun _ h9 => h9) rfl dX14_strength_1 (fun x_1 bx_1 g => ?_)
  refine lv_iconst (v := 4) hx hb dX14_strength_4 (by decide) ?_
  have kb_4 : bd 4 4 (4 : Int32) := ⟨by decide, by decide⟩
  refine lv_icmp_eq (tgt := 10) hx hb dX14_strength_5 (by decide) (fun c_2 => ?_) (fun c_2 => ?_)
  · have fc_2 := eq_f c_2
    have b_3 : bd 4 4 x_1 := eqX fc_2 bx_1 kb_4 (by decide)
    refine lv_aload_n hx hb dX14_strength_10 rfl (lv_at hl 0 rfl) ?_
    refine g_geti (C := RX14) (T := TX14) (N := 67) hx hb hts (mc_ inX14) hown hK g ma0_ ka0_ (by decide) rfl 7 (by decide) rfl (hts _ (List.mem_cons_of_mem _ t_2153)) (fun _ h9 => h9) rfl dX14_strength_11 (fun x_4 bx_4 g => ?_)
    by_cases e_5 : x_4 = 37
    · refine lv_topi (fun z_6 ez_6 => ?_)
      obtain rfl : z_6 = 37 := ez_6.trans e_5
      have kb_37 : bd 37 37 (37 : Int32) := ⟨by decide, by decide⟩
      have b_7 : bd 37 37 x_4 := eqX (eq_f e_5) (bdT x_4) kb_37 (by decide)
      refine lv_lookup (off := 122) (tgt := 136) hx hb dX14_strength_14 (by decide) (by decide) (by decide) ?_
      refine lv_iconst (v := 5) hx hb dX14_strength_136 (by decide) ?_
      have kb_5 : bd 5 5 (5 : Int32) := ⟨by decide, by decide⟩
      subst hQ
      exact W.iret (v := 5) hx hb hr (fun t ht hW => ⟨⟨_, _, rfl, Or.inr (⟨(bd_sub kb_5 (by decide)), x_4, (bd_sub b_7 (by decide)), x_1, b_3, (g.fcts [0, 1] rfl)⟩), q3_of g hK ht hW⟩, g.2.2.1.F ht⟩) g.2.2.1.2.2 dX14_strength_137
    by_cases e_8 : x_4 = 42
    · refine lv_topi (fun z_9 ez_9 => ?_)
      obtain rfl : z_9 = 42 := ez_9.trans e_8
      have kb_42 : bd 42 42 (42 : Int32) := ⟨by decide, by decide⟩
      have b_10 : bd 42 42 x_4 := eqX (eq_f e_8) (bdT x_4) kb_42 (by decide)
      refine lv_lookup (off := 122) (tgt := 136) hx hb dX14_strength_14 (by decide) (by decide) (by decide) ?_
      refine lv_iconst (v := 5) hx hb dX14_strength_136 (by decide) ?_
      have kb_5 : bd 5 5 (5 : Int32) := ⟨by decide, by decide⟩
      subst hQ
      exact W.iret (v := 5) hx hb hr (fun t ht hW => ⟨⟨_, _, rfl, Or.inr (⟨(bd_sub kb_5 (by decide)), x_4, (bd_sub b_10 (by decide)), x_1, b_3, (g.fcts [0, 1] rfl)⟩), q3_of g hK ht hW⟩, g.2.2.1.F ht⟩) g.2.2.1.2.2 dX14_strength_137
    by_cases e_11 : x_4 = 43
    · refine lv_topi (fun z_12 ez_12 => ?_)
      obtain rfl : z_12 = 43 := ez_12.trans e_11
      have kb_43 : bd 43 43 (43 : Int32) := ⟨by decide, by decide⟩
      have b_13 : bd 43 43 x_4 := eqX (eq_f e_11) (bdT x_4) kb_43 (by decide)
      refine lv_lookup (off := 120) (tgt := 134) hx hb dX14_strength_14 (by decide) (by decide) (by decide) ?_
      refine lv_iconst (v := 4) hx hb dX14_strength_134 (by decide) ?_
      subst hQ
      exact W.iret (v := 4) hx hb hr (fun t ht hW => ⟨⟨_, _, rfl, Or.inr (⟨(bd_sub kb_4 (by decide)), x_4, (bd_sub b_13 (by decide)), x_1, b_3, (g.fcts [0, 1] rfl)⟩), q3_of g hK ht hW⟩, g.2.2.1.F ht⟩) g.2.2.1.2.2 dX14_strength_135
    by_cases e_14 : x_4 = 45
    · refine lv_topi (fun z_15 ez_15 => ?_)
      obtain rfl : z_15 = 45 := ez_15.trans e_14
      have kb_45 : bd 45 45 (45 : Int32) := ⟨by decide, by decide⟩
      have b_16 : bd 45 45 x_4 := eqX (eq_f e_14) (bdT x_4) kb_45 (by decide)
      refine lv_lookup (off := 120) (tgt := 134) hx hb dX14_strength_14 (by decide) (by decide) (by decide) ?_
      refine lv_iconst (v := 4) hx hb dX14_strength_134 (by decide) ?_
      subst hQ
      exact W.iret (v := 4) hx hb hr (fun t ht hW => ⟨⟨_, _, rfl, Or.inr (⟨(bd_sub kb_4 (by decide)), x_4, (bd_sub b_16 (by decide)), x_1, b_3, (g.fcts [0, 1] rfl)⟩), q3_of g hK ht hW⟩, g.2.2.1.F ht⟩) g.2.2.1.2.2 dX14_strength_135
    by_cases e_17 : x_4 = 47
    · refine lv_topi (fun z_18 ez_18 => ?_)
      obtain rfl : z_18 = 47 := ez_18.trans e_17
      have kb_47 : bd 47 47 (47 : Int32) := ⟨by decide, by decide⟩
      have b_19 : bd 47 47 x_4 := eqX (eq_f e_17) (bdT x_4) kb_47 (by decide)
      refine lv_lookup (off := 122) (tgt := 136) hx hb dX14_strength_14 (by decide) (by decide) (by decide) ?_
      refine lv_iconst (v := 5) hx hb dX14_strength_136 (by decide) ?_
      have kb_5 : bd 5 5 (5 : Int32) := ⟨by decide, by decide⟩
      subst hQ
      exact W.iret (v := 5) hx hb hr (fun t ht hW => ⟨⟨_, _, rfl, Or.inr (⟨(bd_sub kb_5 (by decide)), x_4, (bd_sub b_19 (by decide)), x_1, b_3, (g.fcts [0, 1] rfl)⟩), q3_of g hK ht hW⟩, g.2.2.1.F ht⟩) g.2.2.1.2.2 dX14_strength_137
    by_cases e_20 : x_4 = 60
    · refine lv_topi (fun z_21 ez_21 => ?_)
      obtain rfl : z_21 = 60 := ez_21.trans e_20
      have kb_60 : bd 60 60 (60 : Int32) := ⟨by decide, by decide⟩
      have b_22 : bd 60 60 x_4 := eqX (eq_f e_20) (bdT x_4) kb_60 (by decide)
      refine lv_lookup (off := 118) (tgt := 132) hx hb dX14_strength_14 (by decide) (by decide) (by decide) ?_
      refine lv_iconst (v := 3) hx hb dX14_strength_132 (by decide) ?_
      have kb_3 : bd 3 3 (3 : Int32) := ⟨by decide, by decide⟩
      subst hQ
      exact W.iret (v := 3) hx hb hr (fun t ht hW => ⟨⟨_, _, rfl, Or.inr (⟨(bd_sub kb_3 (by decide)), x_4, (bd_sub b_22 (by decide)), x_1, b_3, (g.fcts [0, 1] rfl)⟩), q3_of g hK ht hW⟩, g.2.2.1.F ht⟩) g.2.2.1.2.2 dX14_strength_133
    by_cases e_23 : x_4 = 62
    · refine lv_topi (fun z_24 ez_24 => ?_)
      obtain rfl : z_24 = 62 := ez_24.trans e_23
      have kb_62 : bd 62 62 (62 : Int32) := ⟨by decide, by decide⟩
      have b_25 : bd 62 62 x_4 := eqX (eq_f e_23) (bdT x_4) kb_62 (by decide)
      refine lv_lookup (off := 118) (tgt := 132) hx hb dX14_strength_14 (by decide) (by decide) (by decide) ?_
      refine lv_iconst (v := 3) hx hb dX14_strength_132 (by decide) ?_
      have kb_3 : bd 3 3 (3 : Int32) := ⟨by decide, by decide⟩
      subst hQ
      exact W.iret (v := 3) hx hb hr (fun t ht hW => ⟨⟨_, _, rfl, Or.inr (⟨(bd_sub kb_3 (by decide)), x_4, (bd_sub b_25 (by decide)), x_1, b_3, (g.fcts [0, 1] rfl)⟩), q3_of g hK ht hW⟩, g.2.2.1.F ht⟩) g.2.2.1.2.2 dX14_strength_133
    by_cases e_26 : x_4 = 8509
    · refine lv_topi (fun z_27 ez_27 => ?_)
      obtain rfl : z_27 = 8509 := ez_27.trans e_26
      have kb_8509 : bd 8509 8509 (8509 : Int32) := ⟨by decide, by decide⟩
      have b_28 : bd 8509 8509 x_4 := eqX (eq_f e_26) (bdT x_4) kb_8509 (by decide)
      refine lv_lookup (off := 118) (tgt := 132) hx hb dX14_strength_14 (by decide) (by decide) (by decide) ?_
      refine lv_iconst (v := 3) hx hb dX14_strength_132 (by decide) ?_
      have kb_3 : bd 3 3 (3 : Int32) := ⟨by decide, by decide⟩
      subst hQ
      exact W.iret (v := 3) hx hb hr (fun t ht hW => ⟨⟨_, _, rfl, Or.inr (⟨(bd_sub kb_3 (by decide)), x_4, (bd_sub b_28 (by decide)), x_1, b_3, (g.fcts [0, 1] rfl)⟩), q3_of g hK ht hW⟩, g.2.2.1.F ht⟩) g.2.2.1.2.2 dX14_strength_133
    by_cases e_29 : x_4 = 9766
    · refine lv_topi (fun z_30 ez_30 => ?_)
      obtain rfl : z_30 = 9766 := ez_30.trans e_29
      have kb_9766 : bd 9766 9766 (9766 : Int32) := ⟨by decide, by decide⟩
      have b_31 : bd 9766 9766 x_4 := eqX (eq_f e_29) (bdT x_4) kb_9766 (by decide)
      refine lv_lookup (off := 116) (tgt := 130) hx hb dX14_strength_14 (by decide) (by decide) (by decide) ?_
      refine lv_iconst (v := 2) hx hb dX14_strength_130 (by decide) ?_
      have kb_2 : bd 2 2 (2 : Int32) := ⟨by decide, by decide⟩
      subst hQ
      exact W.iret (v := 2) hx hb hr (fun t ht hW => ⟨⟨_, _, rfl, Or.inr (⟨(bd_sub kb_2 (by decide)), x_4, (bd_sub b_31 (by decide)), x_1, b_3, (g.fcts [0, 1] rfl)⟩), q3_of g hK ht hW⟩, g.2.2.1.F ht⟩) g.2.2.1.2.2 dX14_strength_131
    by_cases e_32 : x_4 = 15421
    · refine lv_topi (fun z_33 ez_33 => ?_)
      obtain rfl : z_33 = 15421 := ez_33.trans e_32
      have kb_15421 : bd 15421 15421 (15421 : Int32) := ⟨by decide, by decide⟩
      have b_34 : bd 15421 15421 x_4 := eqX (eq_f e_32) (bdT x_4) kb_15421 (by decide)
      refine lv_lookup (off := 118) (tgt := 132) hx hb dX14_strength_14 (by decide) (by decide) (by decide) ?_
      refine lv_iconst (v := 3) hx hb dX14_strength_132 (by decide) ?_
      have kb_3 : bd 3 3 (3 : Int32) := ⟨by decide, by decide⟩
      subst hQ
      exact W.iret (v := 3) hx hb hr (fun t ht hW => ⟨⟨_, _, rfl, Or.inr (⟨(bd_sub kb_3 (by decide)), x_4, (bd_sub b_34 (by decide)), x_1, b_3, (g.fcts [0, 1] rfl)⟩), q3_of g hK ht hW⟩, g.2.2.1.F ht⟩) g.2.2.1.2.2 dX14_strength_133
    by_cases e_35 : x_4 = 15677
    · refine lv_topi (fun z_36 ez_36 => ?_)
      obtain rfl : z_36 = 15677 := ez_36.trans e_35
      have kb_15677 : bd 15677 15677 (15677 : Int32) := ⟨by decide, by decide⟩
      have b_37 : bd 15677 15677 x_4 := eqX (eq_f e_35) (bdT x_4) kb_15677 (by decide)
      refine lv_lookup (off := 118) (tgt := 132) hx hb dX14_strength_14 (by decide) (by decide) (by decide) ?_
      refine lv_iconst (v := 3) hx hb dX14_strength_132 (by decide) ?_
      have kb_3 : bd 3 3 (3 : Int32) := ⟨by decide, by decide⟩
      subst hQ
      exact W.iret (v := 3) hx hb hr (fun t ht hW => ⟨⟨_, _, rfl, Or.inr (⟨(bd_sub kb_3 (by decide)), x_4, (bd_sub b_37 (by decide)), x_1, b_3, (g.fcts [0, 1] rfl)⟩), q3_of g hK ht hW⟩, g.2.2.1.F ht⟩) g.2.2.1.2.2 dX14_strength_133
    by_cases e_38 : x_4 = 15933
    · refine lv_topi (fun z_39 ez_39 => ?_)
      obtain rfl : z_39 = 15933 := ez_39.trans e_38
      have kb_15933 : bd 15933 15933 (15933 : Int32) := ⟨by decide, by decide⟩
      have b_40 : bd 15933 15933 x_4 := eqX (eq_f e_38) (bdT x_4) kb_15933 (by decide)
      refine lv_lookup (off := 118) (tgt := 132) hx hb dX14_strength_14 (by decide) (by decide) (by decide) ?_
      refine lv_iconst (v := 3) hx hb dX14_strength_132 (by decide) ?_
      have kb_3 : bd 3 3 (3 : Int32) := ⟨by decide, by decide⟩
      subst hQ
      exact W.iret (v := 3) hx hb hr (fun t ht hW => ⟨⟨_, _, rfl, Or.inr (⟨(bd_sub kb_3 (by decide)), x_4, (bd_sub b_40 (by decide)), x_1, b_3, (g.fcts [0, 1] rfl)⟩), q3_of g hK ht hW⟩, g.2.2.1.F ht⟩) g.2.2.1.2.2 dX14_strength_133
    by_cases e_41 : x_4 = 31868
    · refine lv_topi (fun z_42 ez_42 => ?_)
      obtain rfl : z_42 = 31868 := ez_42.trans e_41
      have kb_31868 : bd 31868 31868 (31868 : Int32) := ⟨by decide, by decide⟩
      have b_43 : bd 31868 31868 x_4 := eqX (eq_f e_41) (bdT x_4) kb_31868 (by decide)
      refine lv_lookup (off := 114) (tgt := 128) hx hb dX14_strength_14 (by decide) (by decide) (by decide) ?_
      refine lv_iconst (v := 1) hx hb dX14_strength_128 (by decide) ?_
      have kb_1 : bd 1 1 (1 : Int32) := ⟨by decide, by decide⟩
      subst hQ
      exact W.iret (v := 1) hx hb hr (fun t ht hW => ⟨⟨_, _, rfl, Or.inr (⟨(bd_sub kb_1 (by decide)), x_4, (bd_sub b_43 (by decide)), x_1, b_3, (g.fcts [0, 1] rfl)⟩), q3_of g hK ht hW⟩, g.2.2.1.F ht⟩) g.2.2.1.2.2 dX14_strength_129
    refine lv_lookup (off := 124) (tgt := 138) hx hb dX14_strength_14 (by decide) (by have a0 : x_4.toInt ≠ 37 := fun h => e_5 (Int32.toInt_inj.mp (h.trans (by decide))); have a1 : x_4.toInt ≠ 42 := fun h => e_8 (Int32.toInt_inj.mp (h.trans (by decide))); have a2 : x_4.toInt ≠ 43 := fun h => e_11 (Int32.toInt_inj.mp (h.trans (by decide))); have a3 : x_4.toInt ≠ 45 := fun h => e_14 (Int32.toInt_inj.mp (h.trans (by decide))); have a4 : x_4.toInt ≠ 47 := fun h => e_17 (Int32.toInt_inj.mp (h.trans (by decide))); have a5 : x_4.toInt ≠ 60 := fun h => e_20 (Int32.toInt_inj.mp (h.trans (by decide))); have a6 : x_4.toInt ≠ 62 := fun h => e_23 (Int32.toInt_inj.mp (h.trans (by decide))); have a7 : x_4.toInt ≠ 8509 := fun h => e_26 (Int32.toInt_inj.mp (h.trans (by decide))); have a8 : x_4.toInt ≠ 9766 := fun h => e_29 (Int32.toInt_inj.mp (h.trans (by decide))); have a9 : x_4.toInt ≠ 15421 := fun h => e_32 (Int32.toInt_inj.mp (h.trans (by decide))); have a10 : x_4.toInt ≠ 15677 := fun h => e_35 (Int32.toInt_inj.mp (h.trans (by decide))); have a11 : x_4.toInt ≠ 15933 := fun h => e_38 (Int32.toInt_inj.mp (h.trans (by decide))); have a12 : x_4.toInt ≠ 31868 := fun h => e_41 (Int32.toInt_inj.mp (h.trans (by decide))); simp [Op.lookupswitch.offset, a0, a1, a2, a3, a4, a5, a6, a7, a8, a9, a10, a11, a12, Ne.symm]) (by decide) ?_
    refine lv_iconst (v := 0) hx hb dX14_strength_138 (by decide) ?_
    subst hQ
    exact W.iret (v := 0) hx hb hr (fun t ht hW => ⟨⟨_, _, rfl, Or.inl ⟨rfl, trivial⟩, q3_of g hK ht hW⟩, g.2.2.1.F ht⟩) g.2.2.1.2.2 dX14_strength_139
  · have fc_2 := neq_f c_2
    refine lv_iconst (v := 0) hx hb dX14_strength_8 (by decide) ?_
    subst hQ
    exact W.iret (v := 0) hx hb hr (fun t ht hW => ⟨⟨_, _, rfl, Or.inl ⟨rfl, trivial⟩, q3_of g hK ht hW⟩, g.2.2.1.F ht⟩) g.2.2.1.2.2 dX14_strength_9
set_option maxHeartbeats 4000000 in
set_option maxRecDepth 100000 in
theorem r_X14_counts_2 (l : Launch) (dC : Nat → ClassId) (dI : Nat → Nat → Nat) (L : List Nat) (kd : Nat → Nat) (tys : List (ClassId × FieldType)) (f0 : Nat → va_E) (sz : Nat) (hWT : WT L kd tys f0) (a0_ : Nat) (ma0_ : a0_ ∈ L) (ka0_ : kd a0_ = 14) (q0_ : Nat) (mq0_ : q0_ ∈ L) (kq0_ : kd q0_ = 12) (V_ : PV) (hGVq0_ : isV f0 q0_ V_) (hfx : Fs L kd f0 [(14, 2, a0_, .ref q0_)]) : MetE l yX14_counts (.code yX14_counts cX14_counts 1 none :: lw_g) ({ frames := 2, cells := 0, slots := 0, locals := 45 }) (va_Pc [.ref a0_] (P3 (dC, dI) L tys f0 sz)) (q3E (dC, dI) L kd tys [(12, 58), (14, 14), (14, 15)] [] f0 sz (pRv (fun (f : Nat → va_E) => ((isV f q0_ V_) ∧ (FR L kd f0 f q0_) ∧ ∃ z0_ : Int32, bd (-2147483647) 2000 z0_ ∧ Fs L kd f [(12, 58, q0_, .int z0_)]))) (fun (f : Nat → va_E) => FR L kd f0 f q0_)) 0 0 (pA L sz) := by
  refine MetE.ofW (cc := cX14_counts) (maxL := 1) (ret := none) (by decide) rfl ?_
  intro p e s m args below meth c s₁ B hml hempty hv
  obtain ⟨rfl, hsz, hP, hK, hD0⟩ := hv
  have hx := B.exec
  have hb := B.bytes
  have hr := B.returns
  have hts := atoms_spec (ws := (.code yX14_counts cX14_counts 1 none :: lw_g)) B.pre
  have hown : s.vm.findClass RX14 = some m.cls := findClass_of_methodNamed B.named
  have hlocks := B.notSynchronized
  subst hsz
  have g : G3 (dC, dI) L kd tys s f0 [(12, 58), (14, 14), (14, 15)] [] f0 s.heap [] [(14, 2, a0_, .ref q0_)] := G3.start hP hD0 hWT hfx
  have hl := lv_entry ([.ref a0_]) (n := 1) (Nat.le_of_ble_eq_true rfl)
  rw [lg_entry_eq]
  generalize (lg_sl ([.ref a0_]) ++ List.replicate (1 - (lg_sl ([.ref a0_])).length) Slot.unset).toArray = ls at hl ⊢
  have hl : lv_has ls 1 [(0, .ref a0_)] := hl
  refine W_q (fun Q hQ => ?_)
  refine lv_aload_n hx hb dX14_counts_0 rfl (lv_at hl 0 rfl) ?_
  refine lv_aload_n hx hb dX14_counts_1 rfl (lv_at hl 0 rfl) ?_
  refine g_getk (C := RX14) (T := TX14) (N := 67) hx hb hts (mc_ inX14) hown hK g rfl 2 (by decide) rfl (hts _ (List.mem_cons_of_mem _ t_2148)) (fun _ h9 => h9) 0 rfl dX14_counts_2 ?_
  refine g_geti (C := RX12) (T := TX12) (N := 60) hx hb hts (mc_ inX12) hown hK g mq0_ kq0_ (by decide) rfl 58 (by decide) rfl (hts _ (List.mem_cons_of_mem _ t_2018)) (fun _ h9 => h9) rfl dX14_counts_5 (fun x_1 bx_1 g => ?_)
  refine lv_sipush (v := 2000) hx hb dX14_counts_8 (by decide) ?_
  have kb_2000 : bd 2000 2000 (2000 : Int32) := ⟨by decide, by decide⟩
  refine lv_icmp_ge (tgt := 18) hx hb dX14_counts_11 (by decide) (fun c_2 => ?_) (fun c_2 => ?_)
  · have fc_2 := le_f c_2
    have b_3 : bd 2000 2147483647 x_1 := leR fc_2 kb_2000 (bdT x_1) (by decide)
    refine lv_iconst (v := 0) hx hb dX14_counts_18 (by decide) ?_
    refine lv_iconst (v := 4) hx hb dX14_counts_19 (by decide) ?_
    refine lv_aload_n hx hb dX14_counts_20 rfl (lv_at hl 0 rfl) ?_
    refine g_geti (C := RX14) (T := TX14) (N := 67) hx hb hts (mc_ inX14) hown hK g ma0_ ka0_ (by decide) rfl 8 (by decide) rfl (hts _ (List.mem_cons_of_mem _ t_2154)) (fun _ h9 => h9) rfl dX14_counts_21 (fun x_4 bx_4 g => ?_)
    have kb_0 : bd 0 0 (0 : Int32) := ⟨by decide, by decide⟩
    have go_ := g
    refine g_callEv (As := [.int 0, .int 4, .int x_4]) (rest := []) ⟨hx, hb, hml, hown, hts⟩ (r_X14_need_2 l dC dI L kd tys f0 s.heap.size g.2.2.2.1 a0_ ma0_ ka0_ 0 kb_0 4 x_4) (cwV 3 hts (gV_ t_2403 t_2405 t_100 t_198 t_2406) rfl rfl rfl (by decide +kernel) ⟨(Nat.le_of_ble_eq_true rfl), (Nat.le_of_ble_eq_true rfl)⟩) (pre3V g hK ma0_ ka0_ (by decide) (q := (RX14, TX14, 67)) rfl) rfl hl.1 rfl (lv_room (Nat.le_of_ble_eq_true rfl)) dX14_counts_24 ⟨(Nat.le_of_ble_eq_true rfl), (Nat.le_of_ble_eq_true rfl)⟩ g hK (by decide) (by decide) (fx' := [(14, 8, a0_, .int x_4), (12, 58, q0_, .int x_1), (14, 2, a0_, .ref q0_)]) rfl (fun xr_5 fr_5 H locs mxr_5 kxr_5 hp hMr_5 g => ?_) (fun fr_5 H locs hp hMr_5 g => ?_)
    · have hG_6 := isV.frame hMr_5 go_.2.2.2.1 mq0_ kq0_ (by decide) (by decide) hGVq0_
      have hG_7 := FR.frame hMr_5 go_.2.2.2.1 mq0_ kq0_ (by decide) (by decide) FR.refl
      subst hQ
      exact WX.leaves hempty hlocks (fun t ht hW => g_thrE g hK mxr_5 kxr_5 hG_7 ht hW) g.2.2.1.2.2
    · exact hp.elim
  · have fc_2 := nle_f c_2
    have b_8 : bd (-2147483648) 1999 x_1 := ltL fc_2 (bdT x_1) kb_2000 (by decide)
    refine lv_iconst (v := 1) hx hb dX14_counts_14 (by decide) ?_
    refine lv_goto (tgt := 19) hx hb dX14_counts_15 (by decide) ?_
    refine lv_iconst (v := 4) hx hb dX14_counts_19 (by decide) ?_
    refine lv_aload_n hx hb dX14_counts_20 rfl (lv_at hl 0 rfl) ?_
    refine g_geti (C := RX14) (T := TX14) (N := 67) hx hb hts (mc_ inX14) hown hK g ma0_ ka0_ (by decide) rfl 8 (by decide) rfl (hts _ (List.mem_cons_of_mem _ t_2154)) (fun _ h9 => h9) rfl dX14_counts_21 (fun x_9 bx_9 g => ?_)
    have kb_1 : bd 1 1 (1 : Int32) := ⟨by decide, by decide⟩
    have go_ := g
    refine g_callEv (As := [.int 1, .int 4, .int x_9]) (rest := []) ⟨hx, hb, hml, hown, hts⟩ (r_X14_need_3 l dC dI L kd tys f0 s.heap.size g.2.2.2.1 a0_ ma0_ ka0_ 1 kb_1 4 x_9) (cwV 3 hts (gV_ t_2403 t_2405 t_100 t_198 t_2406) rfl rfl rfl (by decide +kernel) ⟨(Nat.le_of_ble_eq_true rfl), (Nat.le_of_ble_eq_true rfl)⟩) (pre3V g hK ma0_ ka0_ (by decide) (q := (RX14, TX14, 67)) rfl) rfl hl.1 rfl (lv_room (Nat.le_of_ble_eq_true rfl)) dX14_counts_24 ⟨(Nat.le_of_ble_eq_true rfl), (Nat.le_of_ble_eq_true rfl)⟩ g hK (by decide) (by decide) (fx' := [(14, 8, a0_, .int x_9), (12, 58, q0_, .int x_1), (14, 2, a0_, .ref q0_)]) rfl (fun xr_10 fr_10 H locs mxr_10 kxr_10 hp hMr_10 g => ?_) (fun fr_10 H locs hp hMr_10 g => ?_)
    · have hG_11 := isV.frame hMr_10 go_.2.2.2.1 mq0_ kq0_ (by decide) (by decide) hGVq0_
      have hG_12 := FR.frame hMr_10 go_.2.2.2.1 mq0_ kq0_ (by decide) (by decide) FR.refl
      exact hp.elim
    · have hG_13 := isV.frame hMr_10 go_.2.2.2.1 mq0_ kq0_ (by decide) (by decide) hGVq0_
      have hG_14 := FR.frame hMr_10 go_.2.2.2.1 mq0_ kq0_ (by decide) (by decide) FR.refl
      refine lv_aload_n hx hb dX14_counts_27 rfl (lv_at hl 0 rfl) ?_
      refine g_getk (C := RX14) (T := TX14) (N := 67) hx hb hts (mc_ inX14) hown hK g rfl 2 (by decide) rfl (hts _ (List.mem_cons_of_mem _ t_2148)) (fun _ h9 => h9) 2 rfl dX14_counts_28 ?_
      refine lv_dup hx hb dX14_counts_31 rfl ?_
      refine g_getk (C := RX12) (T := TX12) (N := 60) hx hb hts (mc_ inX12) hown hK g rfl 58 (by decide) rfl (hts _ (List.mem_cons_of_mem _ t_2018)) (fun _ h9 => h9) 1 rfl dX14_counts_32 ?_
      refine lv_iconst (v := 1) hx hb dX14_counts_35 (by decide) ?_
      refine lv_iadd hx hb dX14_counts_36 ?_
      refine lv_topi (fun y_15 ey_15 => ?_)
      have ty_15 := add_bd ey_15 b_8 kb_1 (by decide)
      have b_16 : bd (-2147483647) 2000 y_15 := add_rg ty_15 b_8 kb_1 (by decide)
      have gp_17 := g
      have go_ := g
      refine g_putX (C := RX12) (T := TX12) (N := 60) hx hb hts (mc_ inX12) tyX12 tyX12_ok nmX12 hown hK g mq0_ kq0_ (by decide) rfl 58 (by decide) (hts _ (List.mem_cons_of_mem _ t_2018)) (fun _ h9 => h9) rfl rfl (okV_i (bd_sub b_16 (by decide))) rfl rfl (by decide) (Or.inr (Or.inl (by decide))) (fx' := [(14, 8, a0_, .int x_9), (14, 2, a0_, .ref q0_)]) rfl dX14_counts_37 (fun f H locs hM_18 u_19 g => ?_)
      have hV_20 := isV.u58 hG_13 gp_17.2.2.2.1 mq0_ kq0_ u_19
      have hF_21 := FR.fld hG_14 u_19
      subst hQ
      exact W.thenQ (W.vret hx hb hr (fun t ht hW => g_retE g hK ⟨rfl, ⟨hV_20, hF_21, y_15, b_16, (g.fcts [0] rfl)⟩⟩ ht hW) g.2.2.1.2.2 dX14_counts_40) (fun _ => MQ.toE)
