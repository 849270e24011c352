set_option maxHeartbeats 4000000 in
set_option maxRecDepth 100000 in
theorem r_X0_levelOf (l : Launch) (dC : Nat → ClassId) (dI : Nat → Nat → Nat) (L : List Nat) (kd : Nat → Nat) (tys : List (ClassId × FieldType)) (f0 : Nat → va_E) (sz : Nat) (hWT : WT L kd tys f0) (x0_ : Int32) : Met l yX0_levelOf (.code yX0_levelOf cX0_levelOf 1 (some .int) :: lw_g) ({ frames := 0, cells := 0, slots := 0, locals := 0 }) (va_Pc [.int x0_] (P3 (dC, dI) L tys f0 sz)) (va_Qi (fun (r : Int32) (f : Nat → va_E) => (r = 0 ∧ True) ∨ (bd 1 5 r ∧ bd 37 206 x0_ ∧ True)) (Q3 (dC, dI) L kd tys [] [] f0 sz) (pA L sz)) 0 0 (pA L sz) := by
  refine Met.ofW (cc := cX0_levelOf) (maxL := 1) (ret := (some .int)) (by decide) rfl ?_
  intro p e s m args below meth c s₁ B hml hv
  obtain ⟨rfl, hsz, hP, hK, hD0⟩ := hv
  have hx := B.exec
  have hb := B.bytes
  have hr := B.returns
  have hts := atoms_spec (ws := (.code yX0_levelOf cX0_levelOf 1 (some .int) :: lw_g)) B.pre
  have hown : s.vm.findClass RX0 = some m.cls := findClass_of_methodNamed B.named
  have hlocks := B.notSynchronized
  subst hsz
  have g : G3 (dC, dI) L kd tys s f0 [] [] f0 s.heap [] [] := G3.start hP hD0 hWT Fs.nil
  have hl := lv_entry ([.int x0_]) (n := 1) (Nat.le_of_ble_eq_true rfl)
  rw [lg_entry_eq]
  generalize (lg_sl ([.int x0_]) ++ List.replicate (1 - (lg_sl ([.int x0_])).length) Slot.unset).toArray = ls at hl ⊢
  have hl : lv_has ls 1 [(0, .int x0_)] := hl
  refine W_q (fun Q hQ => ?_)
  refine lv_iload_n hx hb dX0_levelOf_0 rfl (lv_at hl 0 rfl) ?_
  by_cases e_1 : x0_ = 37
  · refine lv_topi (fun z_2 ez_2 => ?_)
    obtain rfl : z_2 = 37 := ez_2.trans e_1
    have kb_37 : bd 37 37 (37 : Int32) := ⟨by decide, by decide⟩
    have b_3 : bd 37 37 x0_ := eqX (eq_f e_1) (bdT x0_) kb_37 (by decide)
    refine lv_lookup (off := 125) (tgt := 126) hx hb dX0_levelOf_1 (by decide) (by decide) (by decide) ?_
    refine lv_iconst (v := 5) hx hb dX0_levelOf_126 (by decide) ?_
    have kb_5 : bd 5 5 (5 : Int32) := ⟨by decide, by decide⟩
    subst hQ
    exact W.iret (v := 5) hx hb hr (fun t ht hW => ⟨⟨_, _, rfl, Or.inr (⟨(bd_sub kb_5 (by decide)), (bd_sub b_3 (by decide)), trivial⟩), q3_of g hK ht hW⟩, g.2.2.1.F ht⟩) g.2.2.1.2.2 dX0_levelOf_127
  by_cases e_4 : x0_ = 42
  · refine lv_topi (fun z_5 ez_5 => ?_)
    obtain rfl : z_5 = 42 := ez_5.trans e_4
    have kb_42 : bd 42 42 (42 : Int32) := ⟨by decide, by decide⟩
    have b_6 : bd 42 42 x0_ := eqX (eq_f e_4) (bdT x0_) kb_42 (by decide)
    refine lv_lookup (off := 125) (tgt := 126) hx hb dX0_levelOf_1 (by decide) (by decide) (by decide) ?_
    refine lv_iconst (v := 5) hx hb dX0_levelOf_126 (by decide) ?_
    have kb_5 : bd 5 5 (5 : Int32) := ⟨by decide, by decide⟩
    subst hQ
    exact W.iret (v := 5) hx hb hr (fun t ht hW => ⟨⟨_, _, rfl, Or.inr (⟨(bd_sub kb_5 (by decide)), (bd_sub b_6 (by decide)), trivial⟩), q3_of g hK ht hW⟩, g.2.2.1.F ht⟩) g.2.2.1.2.2 dX0_levelOf_127
  by_cases e_7 : x0_ = 43
  · refine lv_topi (fun z_8 ez_8 => ?_)
    obtain rfl : z_8 = 43 := ez_8.trans e_7
    have kb_43 : bd 43 43 (43 : Int32) := ⟨by decide, by decide⟩
    have b_9 : bd 43 43 x0_ := eqX (eq_f e_7) (bdT x0_) kb_43 (by decide)
    refine lv_lookup (off := 123) (tgt := 124) hx hb dX0_levelOf_1 (by decide) (by decide) (by decide) ?_
    refine lv_iconst (v := 4) hx hb dX0_levelOf_124 (by decide) ?_
    have kb_4 : bd 4 4 (4 : Int32) := ⟨by decide, by decide⟩
    subst hQ
    exact W.iret (v := 4) hx hb hr (fun t ht hW => ⟨⟨_, _, rfl, Or.inr (⟨(bd_sub kb_4 (by decide)), (bd_sub b_9 (by decide)), trivial⟩), q3_of g hK ht hW⟩, g.2.2.1.F ht⟩) g.2.2.1.2.2 dX0_levelOf_125
  by_cases e_10 : x0_ = 45
  · refine lv_topi (fun z_11 ez_11 => ?_)
    obtain rfl : z_11 = 45 := ez_11.trans e_10
    have kb_45 : bd 45 45 (45 : Int32) := ⟨by decide, by decide⟩
    have b_12 : bd 45 45 x0_ := eqX (eq_f e_10) (bdT x0_) kb_45 (by decide)
    refine lv_lookup (off := 123) (tgt := 124) hx hb dX0_levelOf_1 (by decide) (by decide) (by decide) ?_
    refine lv_iconst (v := 4) hx hb dX0_levelOf_124 (by decide) ?_
    have kb_4 : bd 4 4 (4 : Int32) := ⟨by decide, by decide⟩
    subst hQ
    exact W.iret (v := 4) hx hb hr (fun t ht hW => ⟨⟨_, _, rfl, Or.inr (⟨(bd_sub kb_4 (by decide)), (bd_sub b_12 (by decide)), trivial⟩), q3_of g hK ht hW⟩, g.2.2.1.F ht⟩) g.2.2.1.2.2 dX0_levelOf_125
  by_cases e_13 : x0_ = 47
  · refine lv_topi (fun z_14 ez_14 => ?_)
    obtain rfl : z_14 = 47 := ez_14.trans e_13
    have kb_47 : bd 47 47 (47 : Int32) := ⟨by decide, by decide⟩
    have b_15 : bd 47 47 x0_ := eqX (eq_f e_13) (bdT x0_) kb_47 (by decide)
    refine lv_lookup (off := 125) (tgt := 126) hx hb dX0_levelOf_1 (by decide) (by decide) (by decide) ?_
    refine lv_iconst (v := 5) hx hb dX0_levelOf_126 (by decide) ?_
    have kb_5 : bd 5 5 (5 : Int32) := ⟨by decide, by decide⟩
    subst hQ
    exact W.iret (v := 5) hx hb hr (fun t ht hW => ⟨⟨_, _, rfl, Or.inr (⟨(bd_sub kb_5 (by decide)), (bd_sub b_15 (by decide)), trivial⟩), q3_of g hK ht hW⟩, g.2.2.1.F ht⟩) g.2.2.1.2.2 dX0_levelOf_127
  by_cases e_16 : x0_ = 60
  · refine lv_topi (fun z_17 ez_17 => ?_)
    obtain rfl : z_17 = 60 := ez_17.trans e_16
    have kb_60 : bd 60 60 (60 : Int32) := ⟨by decide, by decide⟩
    have b_18 : bd 60 60 x0_ := eqX (eq_f e_16) (bdT x0_) kb_60 (by decide)
    refine lv_lookup (off := 121) (tgt := 122) hx hb dX0_levelOf_1 (by decide) (by decide) (by decide) ?_
    refine lv_iconst (v := 3) hx hb dX0_levelOf_122 (by decide) ?_
    have kb_3 : bd 3 3 (3 : Int32) := ⟨by decide, by decide⟩
    subst hQ
    exact W.iret (v := 3) hx hb hr (fun t ht hW => ⟨⟨_, _, rfl, Or.inr (⟨(bd_sub kb_3 (by decide)), (bd_sub b_18 (by decide)), trivial⟩), q3_of g hK ht hW⟩, g.2.2.1.F ht⟩) g.2.2.1.2.2 dX0_levelOf_123
  by_cases e_19 : x0_ = 62
  · refine lv_topi (fun z_20 ez_20 => ?_)
    obtain rfl : z_20 = 62 := ez_20.trans e_19
    have kb_62 : bd 62 62 (62 : Int32) := ⟨by decide, by decide⟩
    have b_21 : bd 62 62 x0_ := eqX (eq_f e_19) (bdT x0_) kb_62 (by decide)
    refine lv_lookup (off := 121) (tgt := 122) hx hb dX0_levelOf_1 (by decide) (by decide) (by decide) ?_
    refine lv_iconst (v := 3) hx hb dX0_levelOf_122 (by decide) ?_
    have kb_3 : bd 3 3 (3 : Int32) := ⟨by decide, by decide⟩
    subst hQ
    exact W.iret (v := 3) hx hb hr (fun t ht hW => ⟨⟨_, _, rfl, Or.inr (⟨(bd_sub kb_3 (by decide)), (bd_sub b_21 (by decide)), trivial⟩), q3_of g hK ht hW⟩, g.2.2.1.F ht⟩) g.2.2.1.2.2 dX0_levelOf_123
  by_cases e_22 : x0_ = 201
  · refine lv_topi (fun z_23 ez_23 => ?_)
    obtain rfl : z_23 = 201 := ez_23.trans e_22
    have kb_201 : bd 201 201 (201 : Int32) := ⟨by decide, by decide⟩
    have b_24 : bd 201 201 x0_ := eqX (eq_f e_22) (bdT x0_) kb_201 (by decide)
    refine lv_lookup (off := 119) (tgt := 120) hx hb dX0_levelOf_1 (by decide) (by decide) (by decide) ?_
    refine lv_iconst (v := 3) hx hb dX0_levelOf_120 (by decide) ?_
    have kb_3 : bd 3 3 (3 : Int32) := ⟨by decide, by decide⟩
    subst hQ
    exact W.iret (v := 3) hx hb hr (fun t ht hW => ⟨⟨_, _, rfl, Or.inr (⟨(bd_sub kb_3 (by decide)), (bd_sub b_24 (by decide)), trivial⟩), q3_of g hK ht hW⟩, g.2.2.1.F ht⟩) g.2.2.1.2.2 dX0_levelOf_121
  by_cases e_25 : x0_ = 202
  · refine lv_topi (fun z_26 ez_26 => ?_)
    obtain rfl : z_26 = 202 := ez_26.trans e_25
    have kb_202 : bd 202 202 (202 : Int32) := ⟨by decide, by decide⟩
    have b_27 : bd 202 202 x0_ := eqX (eq_f e_25) (bdT x0_) kb_202 (by decide)
    refine lv_lookup (off := 119) (tgt := 120) hx hb dX0_levelOf_1 (by decide) (by decide) (by decide) ?_
    refine lv_iconst (v := 3) hx hb dX0_levelOf_120 (by decide) ?_
    have kb_3 : bd 3 3 (3 : Int32) := ⟨by decide, by decide⟩
    subst hQ
    exact W.iret (v := 3) hx hb hr (fun t ht hW => ⟨⟨_, _, rfl, Or.inr (⟨(bd_sub kb_3 (by decide)), (bd_sub b_27 (by decide)), trivial⟩), q3_of g hK ht hW⟩, g.2.2.1.F ht⟩) g.2.2.1.2.2 dX0_levelOf_121
  by_cases e_28 : x0_ = 203
  · refine lv_topi (fun z_29 ez_29 => ?_)
    obtain rfl : z_29 = 203 := ez_29.trans e_28
    have kb_203 : bd 203 203 (203 : Int32) := ⟨by decide, by decide⟩
    have b_30 : bd 203 203 x0_ := eqX (eq_f e_28) (bdT x0_) kb_203 (by decide)
    refine lv_lookup (off := 121) (tgt := 122) hx hb dX0_levelOf_1 (by decide) (by decide) (by decide) ?_
    refine lv_iconst (v := 3) hx hb dX0_levelOf_122 (by decide) ?_
    have kb_3 : bd 3 3 (3 : Int32) := ⟨by decide, by decide⟩
    subst hQ
    exact W.iret (v := 3) hx hb hr (fun t ht hW => ⟨⟨_, _, rfl, Or.inr (⟨(bd_sub kb_3 (by decide)), (bd_sub b_30 (by decide)), trivial⟩), q3_of g hK ht hW⟩, g.2.2.1.F ht⟩) g.2.2.1.2.2 dX0_levelOf_123
  by_cases e_31 : x0_ = 204
  · refine lv_topi (fun z_32 ez_32 => ?_)
    obtain rfl : z_32 = 204 := ez_32.trans e_31
    have kb_204 : bd 204 204 (204 : Int32) := ⟨by decide, by decide⟩
    have b_33 : bd 204 204 x0_ := eqX (eq_f e_31) (bdT x0_) kb_204 (by decide)
    refine lv_lookup (off := 121) (tgt := 122) hx hb dX0_levelOf_1 (by decide) (by decide) (by decide) ?_
    refine lv_iconst (v := 3) hx hb dX0_levelOf_122 (by decide) ?_
    have kb_3 : bd 3 3 (3 : Int32) := ⟨by decide, by decide⟩
    subst hQ
    exact W.iret (v := 3) hx hb hr (fun t ht hW => ⟨⟨_, _, rfl, Or.inr (⟨(bd_sub kb_3 (by decide)), (bd_sub b_33 (by decide)), trivial⟩), q3_of g hK ht hW⟩, g.2.2.1.F ht⟩) g.2.2.1.2.2 dX0_levelOf_123
  by_cases e_34 : x0_ = 205
  · refine lv_topi (fun z_35 ez_35 => ?_)
    obtain rfl : z_35 = 205 := ez_35.trans e_34
    have kb_205 : bd 205 205 (205 : Int32) := ⟨by decide, by decide⟩
    have b_36 : bd 205 205 x0_ := eqX (eq_f e_34) (bdT x0_) kb_205 (by decide)
    refine lv_lookup (off := 117) (tgt := 118) hx hb dX0_levelOf_1 (by decide) (by decide) (by decide) ?_
    refine lv_iconst (v := 2) hx hb dX0_levelOf_118 (by decide) ?_
    have kb_2 : bd 2 2 (2 : Int32) := ⟨by decide, by decide⟩
    subst hQ
    exact W.iret (v := 2) hx hb hr (fun t ht hW => ⟨⟨_, _, rfl, Or.inr (⟨(bd_sub kb_2 (by decide)), (bd_sub b_36 (by decide)), trivial⟩), q3_of g hK ht hW⟩, g.2.2.1.F ht⟩) g.2.2.1.2.2 dX0_levelOf_119
  by_cases e_37 : x0_ = 206
  · refine lv_topi (fun z_38 ez_38 => ?_)
    obtain rfl : z_38 = 206 := ez_38.trans e_37
    have kb_206 : bd 206 206 (206 : Int32) := ⟨by decide, by decide⟩
    have b_39 : bd 206 206 x0_ := eqX (eq_f e_37) (bdT x0_) kb_206 (by decide)
    refine lv_lookup (off := 115) (tgt := 116) hx hb dX0_levelOf_1 (by decide) (by decide) (by decide) ?_
    refine lv_iconst (v := 1) hx hb dX0_levelOf_116 (by decide) ?_
    have kb_1 : bd 1 1 (1 : Int32) := ⟨by decide, by decide⟩
    subst hQ
    exact W.iret (v := 1) hx hb hr (fun t ht hW => ⟨⟨_, _, rfl, Or.inr (⟨(bd_sub kb_1 (by decide)), (bd_sub b_39 (by decide)), trivial⟩), q3_of g hK ht hW⟩, g.2.2.1.F ht⟩) g.2.2.1.2.2 dX0_levelOf_117
  refine lv_lookup (off := 127) (tgt := 128) hx hb dX0_levelOf_1 (by decide) (by have a0 : x0_.toInt ≠ 37 := fun h => e_1 (Int32.toInt_inj.mp (h.trans (by decide))); have a1 : x0_.toInt ≠ 42 := fun h => e_4 (Int32.toInt_inj.mp (h.trans (by decide))); have a2 : x0_.toInt ≠ 43 := fun h => e_7 (Int32.toInt_inj.mp (h.trans (by decide))); have a3 : x0_.toInt ≠ 45 := fun h => e_10 (Int32.toInt_inj.mp (h.trans (by decide))); have a4 : x0_.toInt ≠ 47 := fun h => e_13 (Int32.toInt_inj.mp (h.trans (by decide))); have a5 : x0_.toInt ≠ 60 := fun h => e_16 (Int32.toInt_inj.mp (h.trans (by decide))); have a6 : x0_.toInt ≠ 62 := fun h => e_19 (Int32.toInt_inj.mp (h.trans (by decide))); have a7 : x0_.toInt ≠ 201 := fun h => e_22 (Int32.toInt_inj.mp (h.trans (by decide))); have a8 : x0_.toInt ≠ 202 := fun h => e_25 (Int32.toInt_inj.mp (h.trans (by decide))); have a9 : x0_.toInt ≠ 203 := fun h => e_28 (Int32.toInt_inj.mp (h.trans (by decide))); have a10 : x0_.toInt ≠ 204 := fun h => e_31 (Int32.toInt_inj.mp (h.trans (by decide))); have a11 : x0_.toInt ≠ 205 := fun h => e_34 (Int32.toInt_inj.mp (h.trans (by decide))); have a12 : x0_.toInt ≠ 206 := fun h => e_37 (Int32.toInt_inj.mp (h.trans (by decide))); simp [Op.lookupswitch.offset, a0, a1, a2, a3, a4, a5, a6, a7, a8, a9, a10, a11, a12, Ne.symm]) (by decide) ?_
  refine lv_iconst (v := 0) hx hb dX0_levelOf_128 (by decide) ?_
  subst hQ
  exact W.iret (v := 0) hx hb hr (fun t ht hW => ⟨⟨_, _, rfl, Or.inl ⟨rfl, trivial⟩, q3_of g hK ht hW⟩, g.2.2.1.F ht⟩) g.2.2.1.2.2 dX0_levelOf_129
set_option maxHeartbeats 4000000 in
set_option maxRecDepth 100000 in
theorem r_X0_takeHeight (l : Launch) (dC : Nat → ClassId) (dI : Nat → Nat → Nat) (L : List Nat) (kd : Nat → Nat) (tys : List (ClassId × FieldType)) (f0 : Nat → va_E) (sz : Nat) (hWT : WT L kd tys f0) (a0_ : Nat) (ma0_ : a0_ ∈ L) (ka0_ : kd a0_ = 0) : Met l yX0_takeHeight (.code yX0_takeHeight cX0_takeHeight 1 (some .int) :: lw_g) ({ frames := 0, cells := 0, slots := 0, locals := 0 }) (va_Pc [.ref a0_] (P3 (dC, dI) L tys f0 sz)) (va_Qi (fun (r : Int32) (f : Nat → va_E) => (∃ z0_ : Int32, bd 0 299 z0_ ∧ Fs L kd f [(0, 10, a0_, .int z0_)])) (Q3 (dC, dI) L kd tys [(0, 10)] [] f0 sz) (pA L sz)) 0 0 (pA L sz) := by
  refine Met.ofW (cc := cX0_takeHeight) (maxL := 1) (ret := (some .int)) (by decide) rfl ?_
  intro p e s m args below meth c s₁ B hml hv
  obtain ⟨rfl, hsz, hP, hK, hD0⟩ := hv
  have hx := B.exec
  have hb := B.bytes
  have hr := B.returns
  have hts := atoms_spec (ws := (.code yX0_takeHeight cX0_takeHeight 1 (some .int) :: lw_g)) B.pre
  have hown : s.vm.findClass RX0 = some m.cls := findClass_of_methodNamed B.named
  have hlocks := B.notSynchronized
  subst hsz
  have g : G3 (dC, dI) L kd tys s f0 [(0, 10)] [] f0 s.heap [] [] := G3.start hP hD0 hWT Fs.nil
  have hl := lv_entry ([.ref a0_]) (n := 1) (Nat.le_of_ble_eq_true rfl)
  rw [lg_entry_eq]
  generalize (lg_sl ([.ref a0_]) ++ List.replicate (1 - (lg_sl ([.ref a0_])).length) Slot.unset).toArray = ls at hl ⊢
  have hl : lv_has ls 1 [(0, .ref a0_)] := hl
  refine W_q (fun Q hQ => ?_)
  refine lv_aload_n hx hb dX0_takeHeight_0 rfl (lv_at hl 0 rfl) ?_
  refine g_geti (C := RX0) (T := TX0) (N := 14) hx hb hts (mc_ inX0) hown hK g ma0_ ka0_ (by decide) rfl 10 (by decide) rfl (hts _ (List.mem_cons_of_mem _ t_383)) (fun _ h9 => h9) rfl dX0_takeHeight_1 (fun x_1 bx_1 g => ?_)
  have kb_0 : bd 0 0 (0 : Int32) := ⟨by decide, by decide⟩
  refine lv_if_le (tgt := 17) hx hb dX0_takeHeight_4 (by decide) (fun c_2 => ?_) (fun c_2 => ?_)
  · have fc_2 := le_f c_2
    have b_3 : bd 0 0 x_1 := leL fc_2 bx_1 kb_0 (by decide)
    refine lv_aload_n hx hb dX0_takeHeight_17 rfl (lv_at hl 0 rfl) ?_
    refine g_getr (K := 115) (C := RX0) (T := TX0) (N := 14) hx hb hts (mc_ inX0) hown hK g ma0_ ka0_ (by decide) rfl 9 (by decide) rfl (hts _ (List.mem_cons_of_mem _ t_382)) (fun _ h9 => h9) rfl dX0_takeHeight_18 (fun a_4 ma_4 ka_4 g => ?_)
    refine lv_aload_n hx hb dX0_takeHeight_21 rfl (lv_at hl 0 rfl) ?_
    refine g_getk (C := RX0) (T := TX0) (N := 14) hx hb hts (mc_ inX0) hown hK g rfl 10 (by decide) rfl (hts _ (List.mem_cons_of_mem _ t_383)) (fun _ h9 => h9) 1 rfl dX0_takeHeight_22 ?_
    refine g_iald hx hb hK g ma_4 ka_4 (by decide) rfl (in_bd b_3 (by decide)) dX0_takeHeight_25 (fun x_5 bx_5 cx_5 => ?_)
    subst hQ
    exact W.iret (v := x_5) hx hb hr (fun t ht hW => ⟨⟨_, _, rfl, ⟨x_1, (bd_sub b_3 (by decide)), (g.fcts [1] rfl)⟩, q3_of g hK ht hW⟩, g.2.2.1.F ht⟩) g.2.2.1.2.2 dX0_takeHeight_26
  · have fc_2 := nle_f c_2
    have b_6 : bd 1 300 x_1 := ltR fc_2 kb_0 bx_1 (by decide)
    refine lv_aload_n hx hb dX0_takeHeight_7 rfl (lv_at hl 0 rfl) ?_
    refine lv_dup hx hb dX0_takeHeight_8 rfl ?_
    refine g_getk (C := RX0) (T := TX0) (N := 14) hx hb hts (mc_ inX0) hown hK g rfl 10 (by decide) rfl (hts _ (List.mem_cons_of_mem _ t_383)) (fun _ h9 => h9) 0 rfl dX0_takeHeight_9 ?_
    refine lv_iconst (v := 1) hx hb dX0_takeHeight_12 (by decide) ?_
    have kb_1 : bd 1 1 (1 : Int32) := ⟨by decide, by decide⟩
    refine lv_isub hx hb dX0_takeHeight_13 ?_
    refine lv_topi (fun y_7 ey_7 => ?_)
    have ty_7 := sub_bd ey_7 b_6 kb_1 (by decide)
    have b_8 : bd 0 299 y_7 := sub_rg ty_7 b_6 kb_1 (by decide)
    refine g_put (C := RX0) (T := TX0) (N := 14) hx hb hts (mc_ inX0) tyX0 tyX0_ok nmX0 hown hK g ma0_ ka0_ (by decide) rfl 10 (by decide) (hts _ (List.mem_cons_of_mem _ t_383)) (fun _ h9 => h9) rfl rfl (okV_i (bd_sub b_8 (by decide))) rfl rfl (by decide) (Or.inr (Or.inl (by decide))) (fx' := []) rfl dX0_takeHeight_14 (fun f H locs hM_9 g => ?_)
    refine lv_aload_n hx hb dX0_takeHeight_17 rfl (lv_at hl 0 rfl) ?_
    refine g_getr (K := 115) (C := RX0) (T := TX0) (N := 14) hx hb hts (mc_ inX0) hown hK g ma0_ ka0_ (by decide) rfl 9 (by decide) rfl (hts _ (List.mem_cons_of_mem _ t_382)) (fun _ h9 => h9) rfl dX0_takeHeight_18 (fun a_10 ma_10 ka_10 g => ?_)
    refine lv_aload_n hx hb dX0_takeHeight_21 rfl (lv_at hl 0 rfl) ?_
    refine g_getk (C := RX0) (T := TX0) (N := 14) hx hb hts (mc_ inX0) hown hK g rfl 10 (by decide) rfl (hts _ (List.mem_cons_of_mem _ t_383)) (fun _ h9 => h9) 1 rfl dX0_takeHeight_22 ?_
    refine g_iald hx hb hK g ma_10 ka_10 (by decide) rfl (in_bd b_8 (by decide)) dX0_takeHeight_25 (fun x_11 bx_11 cx_11 => ?_)
    subst hQ
    exact W.iret (v := x_11) hx hb hr (fun t ht hW => ⟨⟨_, _, rfl, ⟨y_7, b_8, (g.fcts [1] rfl)⟩, q3_of g hK ht hW⟩, g.2.2.1.F ht⟩) g.2.2.1.2.2 dX0_takeHeight_26
set_option maxHeartbeats 4000000 in
set_option maxRecDepth 100000 in
theorem r_X7_leadHere (l : Launch) (dC : Nat → ClassId) (dI : Nat → Nat → Nat) (L : List Nat) (kd : Nat → Nat) (tys : List (ClassId × FieldType)) (f0 : Nat → va_E) (sz : Nat) (hWT : WT L kd tys f0) (a0_ : Nat) (ma0_ : a0_ ∈ L) (ka0_ : kd a0_ = 7) (x1_ : Int32) : Met l yX7_leadHere (.code yX7_leadHere cX7_leadHere 2 none :: lw_g) ({ frames := 0, cells := 0, slots := 0, locals := 0 }) (va_Pc [.ref a0_, .int x1_] (P3 (dC, dI) L tys f0 sz)) (va_Qv (fun (f : Nat → va_E) => (True)) (Q3 (dC, dI) L kd tys [] [139] f0 sz) (pA L sz)) 0 0 (pA L sz) := by
  refine Met.ofW (cc := cX7_leadHere) (maxL := 2) (ret := none) (by decide) rfl ?_
  intro p e s m args below meth c s₁ B hml hv
  obtain ⟨rfl, hsz, hP, hK, hD0⟩ := hv
  have hx := B.exec
  have hb := B.bytes
  have hr := B.returns
  have hts := atoms_spec (ws := (.code yX7_leadHere cX7_leadHere 2 none :: lw_g)) B.pre
  have hown : s.vm.findClass RX7 = some m.cls := findClass_of_methodNamed B.named
  have hlocks := B.notSynchronized
  subst hsz
  have g : G3 (dC, dI) L kd tys s f0 [] [139] f0 s.heap [] [] := G3.start hP hD0 hWT Fs.nil
  have hl := lv_entry ([.ref a0_, .int x1_]) (n := 2) (Nat.le_of_ble_eq_true rfl)
  rw [lg_entry_eq]
  generalize (lg_sl ([.ref a0_, .int x1_]) ++ List.replicate (2 - (lg_sl ([.ref a0_, .int x1_])).length) Slot.unset).toArray = ls at hl ⊢
  have hl : lv_has ls 2 [(0, .ref a0_), (1, .int x1_)] := hl
  refine W_q (fun Q hQ => ?_)
  refine lv_iload_n hx hb dX7_leadHere_0 rfl (lv_at hl 1 rfl) ?_
  have kb_0 : bd 0 0 (0 : Int32) := ⟨by decide, by decide⟩
  refine lv_if_lt (tgt := 22) hx hb dX7_leadHere_1 (by decide) (fun c_1 => ?_) (fun c_1 => ?_)
  · have fc_1 := lt_f c_1
    have b_2 : bd (-2147483648) (-1) x1_ := ltL fc_1 (bdT x1_) kb_0 (by decide)
    subst hQ
    exact W.vret hx hb hr (fun t ht hW => ⟨⟨_, rfl, trivial, q3_of g hK ht hW⟩, g.2.2.1.F ht⟩) g.2.2.1.2.2 dX7_leadHere_22
  · have fc_1 := nlt_f c_1
    have b_3 : bd 0 2147483647 x1_ := leR fc_1 kb_0 (bdT x1_) (by decide)
    refine lv_iload_n hx hb dX7_leadHere_4 rfl (lv_at hl 1 rfl) ?_
    refine lv_aload_n hx hb dX7_leadHere_5 rfl (lv_at hl 0 rfl) ?_
    refine g_geti (C := RX7) (T := TX7) (N := 19) hx hb hts (mc_ inX7) hown hK g ma0_ ka0_ (by decide) rfl 6 (by decide) rfl (hts _ (List.mem_cons_of_mem _ t_644)) (fun _ h9 => h9) rfl dX7_leadHere_6 (fun x_4 bx_4 g => ?_)
    refine lv_icmp_ge (tgt := 22) hx hb dX7_leadHere_9 (by decide) (fun c_5 => ?_) (fun c_5 => ?_)
    · have fc_5 := le_f c_5
      subst hQ
      exact W.vret hx hb hr (fun t ht hW => ⟨⟨_, rfl, trivial, q3_of g hK ht hW⟩, g.2.2.1.F ht⟩) g.2.2.1.2.2 dX7_leadHere_22
    · have fc_5 := nle_f c_5
      have b_6 : bd 0 1999 x1_ := ltL fc_5 b_3 bx_4 (by decide)
      have b_7 : bd 1 2000 x_4 := ltR fc_5 b_3 bx_4 (by decide)
      refine lv_aload_n hx hb dX7_leadHere_12 rfl (lv_at hl 0 rfl) ?_
      refine g_getr (K := 139) (C := RX7) (T := TX7) (N := 19) hx hb hts (mc_ inX7) hown hK g ma0_ ka0_ (by decide) rfl 5 (by decide) rfl (hts _ (List.mem_cons_of_mem _ t_642)) (fun _ h9 => h9) rfl dX7_leadHere_13 (fun a_8 ma_8 ka_8 g => ?_)
      refine lv_iload_n hx hb dX7_leadHere_16 rfl (lv_at hl 1 rfl) ?_
      refine lv_aload_n hx hb dX7_leadHere_17 rfl (lv_at hl 0 rfl) ?_
      refine g_getk (C := RX7) (T := TX7) (N := 19) hx hb hts (mc_ inX7) hown hK g rfl 6 (by decide) rfl (hts _ (List.mem_cons_of_mem _ t_644)) (fun _ h9 => h9) 1 rfl dX7_leadHere_18 ?_
      refine g_iast hx hb hK g ma_8 ka_8 (by decide) rfl (in_bd b_6 (by decide)) (bd_sub b_7 (by decide)) (by decide) dX7_leadHere_21 (fun f H locs hM_9 g => ?_)
      subst hQ
      exact W.vret hx hb hr (fun t ht hW => ⟨⟨_, rfl, trivial, q3_of g hK ht hW⟩, g.2.2.1.F ht⟩) g.2.2.1.2.2 dX7_leadHere_22
