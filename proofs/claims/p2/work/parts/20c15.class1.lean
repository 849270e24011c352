set_option maxHeartbeats 4000000 in
set_option maxRecDepth 100000 in
theorem r_X6_firstOf (l : Launch) (dC : Nat → ClassId) (dI : Nat → Nat → Nat) (L : List Nat) (kd : Nat → Nat) (tys : List (ClassId × FieldType)) (f0 : Nat → va_E) (sz : Nat) (hWT : WT L kd tys f0) (a0_ : Nat) (ma0_ : a0_ ∈ L) (ka0_ : kd a0_ = 6) (x1_ : Int32) : Met l yX6_firstOf (.code yX6_firstOf cX6_firstOf 2 (some .int) :: lw_g) ({ frames := 0, cells := 0, slots := 0, locals := 0 }) (va_Pc [.ref a0_, .int x1_] (P3 (dC, dI) L tys f0 sz)) (va_Qi (fun (r : Int32) (f : Nat → va_E) => (True)) (Q3 (dC, dI) L kd tys [] [] f0 sz) (pA L sz)) 0 0 (pA L sz) := by
  refine Met.ofW (cc := cX6_firstOf) (maxL := 2) (ret := (some .int)) (by decide) rfl ?_
  intro p e s m args below meth c s₁ B hml hv
  obtain ⟨rfl, hsz, hP, hK, hD0⟩ := hv
  have hx := B.exec
  have hb := B.bytes
  have hr := B.returns
  have hts := atoms_spec (ws := (.code yX6_firstOf cX6_firstOf 2 (some .int) :: lw_g)) B.pre
  have hown : s.vm.findClass RX6 = some m.cls := findClass_of_methodNamed B.named
  have hlocks := B.notSynchronized
  subst hsz
  have g : G3 (dC, dI) L kd tys s f0 [] [] f0 s.heap [] [] := G3.start hP hD0 hWT Fs.nil
  have hl := lv_entry ([.ref a0_, .int x1_]) (n := 2) (Nat.le_of_ble_eq_true rfl)
  rw [lg_entry_eq]
  generalize (lg_sl ([.ref a0_, .int x1_]) ++ List.replicate (2 - (lg_sl ([.ref a0_, .int x1_])).length) Slot.unset).toArray = ls at hl ⊢
  have hl : lv_has ls 2 [(0, .ref a0_), (1, .int x1_)] := hl
  refine W_q (fun Q hQ => ?_)
  refine lv_iload_n hx hb dX6_firstOf_0 rfl (lv_at hl 1 rfl) ?_
  have kb_0 : bd 0 0 (0 : Int32) := ⟨by decide, by decide⟩
  refine lv_if_lt (tgt := 9) hx hb dX6_firstOf_1 (by decide) (fun c_1 => ?_) (fun c_1 => ?_)
  · have fc_1 := lt_f c_1
    have b_2 : bd (-2147483648) (-1) x1_ := ltL fc_1 (bdT x1_) kb_0 (by decide)
    refine lv_iconst (v := 0) hx hb dX6_firstOf_9 (by decide) ?_
    subst hQ
    exact W.iret (v := 0) hx hb hr (fun t ht hW => ⟨⟨_, _, rfl, trivial, q3_of g hK ht hW⟩, g.2.2.1.F ht⟩) g.2.2.1.2.2 dX6_firstOf_10
  · have fc_1 := nlt_f c_1
    have b_3 : bd 0 2147483647 x1_ := leR fc_1 kb_0 (bdT x1_) (by decide)
    refine lv_iload_n hx hb dX6_firstOf_4 rfl (lv_at hl 1 rfl) ?_
    refine lv_iconst (v := 3) hx hb dX6_firstOf_5 (by decide) ?_
    have kb_3 : bd 3 3 (3 : Int32) := ⟨by decide, by decide⟩
    refine lv_icmp_lt (tgt := 11) hx hb dX6_firstOf_6 (by decide) (fun c_4 => ?_) (fun c_4 => ?_)
    · have fc_4 := lt_f c_4
      have b_5 : bd 0 2 x1_ := ltL fc_4 b_3 kb_3 (by decide)
      refine lv_aload_n hx hb dX6_firstOf_11 rfl (lv_at hl 0 rfl) ?_
      refine g_getr (K := 134) (C := RX6) (T := TX6) (N := 13) hx hb hts (mc_ inX6) hown hK g ma0_ ka0_ (by decide) rfl 4 (by decide) rfl (hts _ (List.mem_cons_of_mem _ t_569)) (fun _ h9 => h9) rfl dX6_firstOf_12 (fun a_6 ma_6 ka_6 g => ?_)
      refine lv_iload_n hx hb dX6_firstOf_15 rfl (lv_at hl 1 rfl) ?_
      refine g_iald hx hb hK g ma_6 ka_6 (by decide) rfl (in_bd b_5 (by decide)) dX6_firstOf_16 (fun x_7 bx_7 cx_7 => ?_)
      refine lv_if_gt (tgt := 33) hx hb dX6_firstOf_17 (by decide) (fun c_8 => ?_) (fun c_8 => ?_)
      · have fc_8 := lt_f c_8
        have b_9 : bd 1 2147483647 x_7 := ltR fc_8 kb_0 (bdT x_7) (by decide)
        refine lv_aload_n hx hb dX6_firstOf_33 rfl (lv_at hl 0 rfl) ?_
        refine g_getk (C := RX6) (T := TX6) (N := 13) hx hb hts (mc_ inX6) hown hK g rfl 4 (by decide) rfl (hts _ (List.mem_cons_of_mem _ t_569)) (fun _ h9 => h9) 0 rfl dX6_firstOf_34 ?_
        refine lv_iload_n hx hb dX6_firstOf_37 rfl (lv_at hl 1 rfl) ?_
        refine g_iald hx hb hK g ma_6 ka_6 (by decide) rfl (in_bd b_5 (by decide)) dX6_firstOf_38 (fun x_10 bx_10 cx_10 => ?_)
        obtain rfl : x_7 = x_10 := el_same cx_7 cx_10 rfl
        subst hQ
        exact W.iret (v := x_7) hx hb hr (fun t ht hW => ⟨⟨_, _, rfl, trivial, q3_of g hK ht hW⟩, g.2.2.1.F ht⟩) g.2.2.1.2.2 dX6_firstOf_39
      · have fc_8 := nlt_f c_8
        have b_11 : bd (-2147483648) 0 x_7 := leL fc_8 (bdT x_7) kb_0 (by decide)
        refine lv_aload_n hx hb dX6_firstOf_20 rfl (lv_at hl 0 rfl) ?_
        refine g_getr (K := 135) (C := RX6) (T := TX6) (N := 13) hx hb hts (mc_ inX6) hown hK g ma0_ ka0_ (by decide) rfl 5 (by decide) rfl (hts _ (List.mem_cons_of_mem _ t_573)) (fun _ h9 => h9) rfl dX6_firstOf_21 (fun a_12 ma_12 ka_12 g => ?_)
        refine lv_iload_n hx hb dX6_firstOf_24 rfl (lv_at hl 1 rfl) ?_
        refine g_iald hx hb hK g ma_12 ka_12 (by decide) rfl (in_bd b_5 (by decide)) dX6_firstOf_25 (fun x_13 bx_13 cx_13 => ?_)
        refine lv_if_lt (tgt := 33) hx hb dX6_firstOf_26 (by decide) (fun c_14 => ?_) (fun c_14 => ?_)
        · have fc_14 := lt_f c_14
          have b_15 : bd (-2147483648) (-1) x_13 := ltL fc_14 (bdT x_13) kb_0 (by decide)
          refine lv_aload_n hx hb dX6_firstOf_33 rfl (lv_at hl 0 rfl) ?_
          refine g_getk (C := RX6) (T := TX6) (N := 13) hx hb hts (mc_ inX6) hown hK g rfl 4 (by decide) rfl (hts _ (List.mem_cons_of_mem _ t_569)) (fun _ h9 => h9) 1 rfl dX6_firstOf_34 ?_
          refine lv_iload_n hx hb dX6_firstOf_37 rfl (lv_at hl 1 rfl) ?_
          refine g_iald hx hb hK g ma_6 ka_6 (by decide) rfl (in_bd b_5 (by decide)) dX6_firstOf_38 (fun x_16 bx_16 cx_16 => ?_)
          obtain rfl : x_7 = x_16 := el_same cx_7 cx_16 rfl
          subst hQ
          exact W.iret (v := x_7) hx hb hr (fun t ht hW => ⟨⟨_, _, rfl, trivial, q3_of g hK ht hW⟩, g.2.2.1.F ht⟩) g.2.2.1.2.2 dX6_firstOf_39
        · have fc_14 := nlt_f c_14
          have b_17 : bd 0 2147483647 x_13 := leR fc_14 kb_0 (bdT x_13) (by decide)
          refine lv_iconst (v := 0) hx hb dX6_firstOf_29 (by decide) ?_
          refine lv_goto (tgt := 39) hx hb dX6_firstOf_30 (by decide) ?_
          subst hQ
          exact W.iret (v := 0) hx hb hr (fun t ht hW => ⟨⟨_, _, rfl, trivial, q3_of g hK ht hW⟩, g.2.2.1.F ht⟩) g.2.2.1.2.2 dX6_firstOf_39
    · have fc_4 := nlt_f c_4
      have b_18 : bd 3 2147483647 x1_ := leR fc_4 kb_3 b_3 (by decide)
      refine lv_iconst (v := 0) hx hb dX6_firstOf_9 (by decide) ?_
      subst hQ
      exact W.iret (v := 0) hx hb hr (fun t ht hW => ⟨⟨_, _, rfl, trivial, q3_of g hK ht hW⟩, g.2.2.1.F ht⟩) g.2.2.1.2.2 dX6_firstOf_10
set_option maxHeartbeats 4000000 in
set_option maxRecDepth 100000 in
theorem r_X6_numberBehind (l : Launch) (dC : Nat → ClassId) (dI : Nat → Nat → Nat) (L : List Nat) (kd : Nat → Nat) (tys : List (ClassId × FieldType)) (f0 : Nat → va_E) (sz : Nat) (hWT : WT L kd tys f0) (a0_ : Nat) (ma0_ : a0_ ∈ L) (ka0_ : kd a0_ = 6) (x1_ : Int32) (x2_ : Int32) : Met l yX6_numberBehind (.code yX6_numberBehind cX6_numberBehind 3 (some .int) :: lw_g) ({ frames := 0, cells := 0, slots := 0, locals := 0 }) (va_Pc [.ref a0_, .int x1_, .int x2_] (P3 (dC, dI) L tys f0 sz)) (va_Qi (fun (r : Int32) (f : Nat → va_E) => (True)) (Q3 (dC, dI) L kd tys [] [] f0 sz) (pA L sz)) 0 0 (pA L sz) := by
  refine Met.ofW (cc := cX6_numberBehind) (maxL := 3) (ret := (some .int)) (by decide) rfl ?_
  intro p e s m args below meth c s₁ B hml hv
  obtain ⟨rfl, hsz, hP, hK, hD0⟩ := hv
  have hx := B.exec
  have hb := B.bytes
  have hr := B.returns
  have hts := atoms_spec (ws := (.code yX6_numberBehind cX6_numberBehind 3 (some .int) :: lw_g)) B.pre
  have hown : s.vm.findClass RX6 = some m.cls := findClass_of_methodNamed B.named
  have hlocks := B.notSynchronized
  subst hsz
  have g : G3 (dC, dI) L kd tys s f0 [] [] f0 s.heap [] [] := G3.start hP hD0 hWT Fs.nil
  have hl := lv_entry ([.ref a0_, .int x1_, .int x2_]) (n := 3) (Nat.le_of_ble_eq_true rfl)
  rw [lg_entry_eq]
  generalize (lg_sl ([.ref a0_, .int x1_, .int x2_]) ++ List.replicate (3 - (lg_sl ([.ref a0_, .int x1_, .int x2_])).length) Slot.unset).toArray = ls at hl ⊢
  have hl : lv_has ls 3 [(0, .ref a0_), (1, .int x1_), (2, .int x2_)] := hl
  refine W_q (fun Q hQ => ?_)
  refine lv_iload_n hx hb dX6_numberBehind_0 rfl (lv_at hl 1 rfl) ?_
  have kb_0 : bd 0 0 (0 : Int32) := ⟨by decide, by decide⟩
  refine lv_if_lt (tgt := 9) hx hb dX6_numberBehind_1 (by decide) (fun c_1 => ?_) (fun c_1 => ?_)
  · have fc_1 := lt_f c_1
    have b_2 : bd (-2147483648) (-1) x1_ := ltL fc_1 (bdT x1_) kb_0 (by decide)
    refine lv_iload_n hx hb dX6_numberBehind_9 rfl (lv_at hl 2 rfl) ?_
    subst hQ
    exact W.iret (v := x2_) hx hb hr (fun t ht hW => ⟨⟨_, _, rfl, trivial, q3_of g hK ht hW⟩, g.2.2.1.F ht⟩) g.2.2.1.2.2 dX6_numberBehind_10
  · have fc_1 := nlt_f c_1
    have b_3 : bd 0 2147483647 x1_ := leR fc_1 kb_0 (bdT x1_) (by decide)
    refine lv_iload_n hx hb dX6_numberBehind_4 rfl (lv_at hl 1 rfl) ?_
    refine lv_iconst (v := 3) hx hb dX6_numberBehind_5 (by decide) ?_
    have kb_3 : bd 3 3 (3 : Int32) := ⟨by decide, by decide⟩
    refine lv_icmp_lt (tgt := 11) hx hb dX6_numberBehind_6 (by decide) (fun c_4 => ?_) (fun c_4 => ?_)
    · have fc_4 := lt_f c_4
      have b_5 : bd 0 2 x1_ := ltL fc_4 b_3 kb_3 (by decide)
      refine lv_iload_n hx hb dX6_numberBehind_11 rfl (lv_at hl 2 rfl) ?_
      refine lv_if_ge (tgt := 36) hx hb dX6_numberBehind_12 (by decide) (fun c_6 => ?_) (fun c_6 => ?_)
      · have fc_6 := le_f c_6
        have b_7 : bd 0 2147483647 x2_ := leR fc_6 kb_0 (bdT x2_) (by decide)
        refine lv_aload_n hx hb dX6_numberBehind_36 rfl (lv_at hl 0 rfl) ?_
        refine g_getr (K := 135) (C := RX6) (T := TX6) (N := 13) hx hb hts (mc_ inX6) hown hK g ma0_ ka0_ (by decide) rfl 5 (by decide) rfl (hts _ (List.mem_cons_of_mem _ t_573)) (fun _ h9 => h9) rfl dX6_numberBehind_37 (fun a_8 ma_8 ka_8 g => ?_)
        refine lv_iload_n hx hb dX6_numberBehind_40 rfl (lv_at hl 1 rfl) ?_
        refine g_iald hx hb hK g ma_8 ka_8 (by decide) rfl (in_bd b_5 (by decide)) dX6_numberBehind_41 (fun x_9 bx_9 cx_9 => ?_)
        subst hQ
        exact W.iret (v := x_9) hx hb hr (fun t ht hW => ⟨⟨_, _, rfl, trivial, q3_of g hK ht hW⟩, g.2.2.1.F ht⟩) g.2.2.1.2.2 dX6_numberBehind_42
      · have fc_6 := nle_f c_6
        have b_10 : bd (-2147483648) (-1) x2_ := ltL fc_6 (bdT x2_) kb_0 (by decide)
        refine lv_iload_n hx hb dX6_numberBehind_15 rfl (lv_at hl 2 rfl) ?_
        refine lv_aload_n hx hb dX6_numberBehind_16 rfl (lv_at hl 0 rfl) ?_
        refine g_getr (K := 134) (C := RX6) (T := TX6) (N := 13) hx hb hts (mc_ inX6) hown hK g ma0_ ka0_ (by decide) rfl 4 (by decide) rfl (hts _ (List.mem_cons_of_mem _ t_569)) (fun _ h9 => h9) rfl dX6_numberBehind_17 (fun a_11 ma_11 ka_11 g => ?_)
        refine lv_iload_n hx hb dX6_numberBehind_20 rfl (lv_at hl 1 rfl) ?_
        refine g_iald hx hb hK g ma_11 ka_11 (by decide) rfl (in_bd b_5 (by decide)) dX6_numberBehind_21 (fun x_12 bx_12 cx_12 => ?_)
        refine lv_icmp_ne (tgt := 36) hx hb dX6_numberBehind_22 (by decide) (fun c_13 => ?_) (fun c_13 => ?_)
        · have fc_13 := neq_f c_13
          refine lv_aload_n hx hb dX6_numberBehind_36 rfl (lv_at hl 0 rfl) ?_
          refine g_getr (K := 135) (C := RX6) (T := TX6) (N := 13) hx hb hts (mc_ inX6) hown hK g ma0_ ka0_ (by decide) rfl 5 (by decide) rfl (hts _ (List.mem_cons_of_mem _ t_573)) (fun _ h9 => h9) rfl dX6_numberBehind_37 (fun a_14 ma_14 ka_14 g => ?_)
          refine lv_iload_n hx hb dX6_numberBehind_40 rfl (lv_at hl 1 rfl) ?_
          refine g_iald hx hb hK g ma_14 ka_14 (by decide) rfl (in_bd b_5 (by decide)) dX6_numberBehind_41 (fun x_15 bx_15 cx_15 => ?_)
          subst hQ
          exact W.iret (v := x_15) hx hb hr (fun t ht hW => ⟨⟨_, _, rfl, trivial, q3_of g hK ht hW⟩, g.2.2.1.F ht⟩) g.2.2.1.2.2 dX6_numberBehind_42
        · have fc_13 := eq_f c_13
          have b_16 : bd (-2147483648) (-1) x_12 := eqX fc_13.symm (bdT x_12) b_10 (by decide)
          refine lv_aload_n hx hb dX6_numberBehind_25 rfl (lv_at hl 0 rfl) ?_
          refine g_getr (K := 135) (C := RX6) (T := TX6) (N := 13) hx hb hts (mc_ inX6) hown hK g ma0_ ka0_ (by decide) rfl 5 (by decide) rfl (hts _ (List.mem_cons_of_mem _ t_573)) (fun _ h9 => h9) rfl dX6_numberBehind_26 (fun a_17 ma_17 ka_17 g => ?_)
          refine lv_iload_n hx hb dX6_numberBehind_29 rfl (lv_at hl 1 rfl) ?_
          refine g_iald hx hb hK g ma_17 ka_17 (by decide) rfl (in_bd b_5 (by decide)) dX6_numberBehind_30 (fun x_18 bx_18 cx_18 => ?_)
          refine lv_if_le (tgt := 36) hx hb dX6_numberBehind_31 (by decide) (fun c_19 => ?_) (fun c_19 => ?_)
          · have fc_19 := le_f c_19
            have b_20 : bd (-2147483648) 0 x_18 := leL fc_19 (bdT x_18) kb_0 (by decide)
            refine lv_aload_n hx hb dX6_numberBehind_36 rfl (lv_at hl 0 rfl) ?_
            refine g_getk (C := RX6) (T := TX6) (N := 13) hx hb hts (mc_ inX6) hown hK g rfl 5 (by decide) rfl (hts _ (List.mem_cons_of_mem _ t_573)) (fun _ h9 => h9) 0 rfl dX6_numberBehind_37 ?_
            refine lv_iload_n hx hb dX6_numberBehind_40 rfl (lv_at hl 1 rfl) ?_
            refine g_iald hx hb hK g ma_17 ka_17 (by decide) rfl (in_bd b_5 (by decide)) dX6_numberBehind_41 (fun x_21 bx_21 cx_21 => ?_)
            obtain rfl : x_18 = x_21 := el_same cx_18 cx_21 rfl
            subst hQ
            exact W.iret (v := x_18) hx hb hr (fun t ht hW => ⟨⟨_, _, rfl, trivial, q3_of g hK ht hW⟩, g.2.2.1.F ht⟩) g.2.2.1.2.2 dX6_numberBehind_42
          · have fc_19 := nle_f c_19
            have b_22 : bd 1 2147483647 x_18 := ltR fc_19 kb_0 (bdT x_18) (by decide)
            refine lv_iconst (v := 0) hx hb dX6_numberBehind_34 (by decide) ?_
            subst hQ
            exact W.iret (v := 0) hx hb hr (fun t ht hW => ⟨⟨_, _, rfl, trivial, q3_of g hK ht hW⟩, g.2.2.1.F ht⟩) g.2.2.1.2.2 dX6_numberBehind_35
    · have fc_4 := nlt_f c_4
      have b_23 : bd 3 2147483647 x1_ := leR fc_4 kb_3 b_3 (by decide)
      refine lv_iload_n hx hb dX6_numberBehind_9 rfl (lv_at hl 2 rfl) ?_
      subst hQ
      exact W.iret (v := x2_) hx hb hr (fun t ht hW => ⟨⟨_, _, rfl, trivial, q3_of g hK ht hW⟩, g.2.2.1.F ht⟩) g.2.2.1.2.2 dX6_numberBehind_10
set_option maxHeartbeats 4000000 in
set_option maxRecDepth 100000 in
theorem r_X7_wipe (l : Launch) (dC : Nat → ClassId) (dI : Nat → Nat → Nat) (L : List Nat) (kd : Nat → Nat) (tys : List (ClassId × FieldType)) (f0 : Nat → va_E) (sz : Nat) (hWT : WT L kd tys f0) (a0_ : Nat) (ma0_ : a0_ ∈ L) (ka0_ : kd a0_ = 7) : Met l yX7_wipe (.code yX7_wipe cX7_wipe 1 none :: lw_g) ({ frames := 0, cells := 0, slots := 0, locals := 0 }) (va_Pc [.ref a0_] (P3 (dC, dI) L tys f0 sz)) (va_Qv (fun (f : Nat → va_E) => (Fs L kd f [(7, 18, a0_, .int 0), (7, 17, a0_, .int 0), (7, 15, a0_, .int 0), (7, 13, a0_, .int 0), (7, 6, a0_, .int 0), (7, 3, a0_, .int 0), (7, 1, a0_, .int 0)])) (Q3 (dC, dI) L kd tys [(7, 1), (7, 3), (7, 6), (7, 13), (7, 15), (7, 17), (7, 18)] [] f0 sz) (pA L sz)) 0 0 (pA L sz) := by
  refine Met.ofW (cc := cX7_wipe) (maxL := 1) (ret := none) (by decide) rfl ?_
  intro p e s m args below meth c s₁ B hml hv
  obtain ⟨rfl, hsz, hP, hK, hD0⟩ := hv
  have hx := B.exec
  have hb := B.bytes
  have hr := B.returns
  have hts := atoms_spec (ws := (.code yX7_wipe cX7_wipe 1 none :: lw_g)) B.pre
  have hown : s.vm.findClass RX7 = some m.cls := findClass_of_methodNamed B.named
  have hlocks := B.notSynchronized
  subst hsz
  have g : G3 (dC, dI) L kd tys s f0 [(7, 1), (7, 3), (7, 6), (7, 13), (7, 15), (7, 17), (7, 18)] [] f0 s.heap [] [] := G3.start hP hD0 hWT Fs.nil
  have hl := lv_entry ([.ref a0_]) (n := 1) (Nat.le_of_ble_eq_true rfl)
  rw [lg_entry_eq]
  generalize (lg_sl ([.ref a0_]) ++ List.replicate (1 - (lg_sl ([.ref a0_])).length) Slot.unset).toArray = ls at hl ⊢
  have hl : lv_has ls 1 [(0, .ref a0_)] := hl
  refine W_q (fun Q hQ => ?_)
  refine lv_aload_n hx hb dX7_wipe_0 rfl (lv_at hl 0 rfl) ?_
  refine lv_iconst (v := 0) hx hb dX7_wipe_1 (by decide) ?_
  have kb_0 : bd 0 0 (0 : Int32) := ⟨by decide, by decide⟩
  refine g_put (C := RX7) (T := TX7) (N := 19) hx hb hts (mc_ inX7) tyX7 tyX7_ok nmX7 hown hK g ma0_ ka0_ (by decide) rfl 1 (by decide) (hts _ (List.mem_cons_of_mem _ t_626)) (fun _ h9 => h9) rfl rfl (okV_i (bd_sub kb_0 (by decide))) rfl rfl (by decide) (Or.inr (Or.inl (by decide))) (fx' := []) rfl dX7_wipe_2 (fun f H locs hM_1 g => ?_)
  refine lv_aload_n hx hb dX7_wipe_5 rfl (lv_at hl 0 rfl) ?_
  refine lv_iconst (v := 0) hx hb dX7_wipe_6 (by decide) ?_
  refine g_put (C := RX7) (T := TX7) (N := 19) hx hb hts (mc_ inX7) tyX7 tyX7_ok nmX7 hown hK g ma0_ ka0_ (by decide) rfl 3 (by decide) (hts _ (List.mem_cons_of_mem _ t_636)) (fun _ h9 => h9) rfl rfl (okV_i (bd_sub kb_0 (by decide))) rfl rfl (by decide) (Or.inr (Or.inl (by decide))) (fx' := [(7, 1, a0_, .int 0)]) rfl dX7_wipe_7 (fun f H locs hM_2 g => ?_)
  refine lv_aload_n hx hb dX7_wipe_10 rfl (lv_at hl 0 rfl) ?_
  refine lv_iconst (v := 0) hx hb dX7_wipe_11 (by decide) ?_
  refine g_put (C := RX7) (T := TX7) (N := 19) hx hb hts (mc_ inX7) tyX7 tyX7_ok nmX7 hown hK g ma0_ ka0_ (by decide) rfl 6 (by decide) (hts _ (List.mem_cons_of_mem _ t_644)) (fun _ h9 => h9) rfl rfl (okV_i (bd_sub kb_0 (by decide))) rfl rfl (by decide) (Or.inr (Or.inl (by decide))) (fx' := [(7, 3, a0_, .int 0), (7, 1, a0_, .int 0)]) rfl dX7_wipe_12 (fun f H locs hM_3 g => ?_)
  refine lv_aload_n hx hb dX7_wipe_15 rfl (lv_at hl 0 rfl) ?_
  refine lv_iconst (v := 0) hx hb dX7_wipe_16 (by decide) ?_
  refine g_put (C := RX7) (T := TX7) (N := 19) hx hb hts (mc_ inX7) tyX7 tyX7_ok nmX7 hown hK g ma0_ ka0_ (by decide) rfl 13 (by decide) (hts _ (List.mem_cons_of_mem _ t_666)) (fun _ h9 => h9) rfl rfl (okV_i (bd_sub kb_0 (by decide))) rfl rfl (by decide) (Or.inr (Or.inl (by decide))) (fx' := [(7, 6, a0_, .int 0), (7, 3, a0_, .int 0), (7, 1, a0_, .int 0)]) rfl dX7_wipe_17 (fun f H locs hM_4 g => ?_)
  refine lv_aload_n hx hb dX7_wipe_20 rfl (lv_at hl 0 rfl) ?_
  refine lv_iconst (v := 0) hx hb dX7_wipe_21 (by decide) ?_
  refine g_put (C := RX7) (T := TX7) (N := 19) hx hb hts (mc_ inX7) tyX7 tyX7_ok nmX7 hown hK g ma0_ ka0_ (by decide) rfl 15 (by decide) (hts _ (List.mem_cons_of_mem _ t_673)) (fun _ h9 => h9) rfl rfl (okV_i (bd_sub kb_0 (by decide))) rfl rfl (by decide) (Or.inr (Or.inl (by decide))) (fx' := [(7, 13, a0_, .int 0), (7, 6, a0_, .int 0), (7, 3, a0_, .int 0), (7, 1, a0_, .int 0)]) rfl dX7_wipe_22 (fun f H locs hM_5 g => ?_)
  refine lv_aload_n hx hb dX7_wipe_25 rfl (lv_at hl 0 rfl) ?_
  refine lv_iconst (v := 0) hx hb dX7_wipe_26 (by decide) ?_
  refine g_put (C := RX7) (T := TX7) (N := 19) hx hb hts (mc_ inX7) tyX7 tyX7_ok nmX7 hown hK g ma0_ ka0_ (by decide) rfl 17 (by decide) (hts _ (List.mem_cons_of_mem _ t_678)) (fun _ h9 => h9) rfl rfl (okV_i (bd_sub kb_0 (by decide))) rfl rfl (by decide) (Or.inr (Or.inl (by decide))) (fx' := [(7, 15, a0_, .int 0), (7, 13, a0_, .int 0), (7, 6, a0_, .int 0), (7, 3, a0_, .int 0), (7, 1, a0_, .int 0)]) rfl dX7_wipe_27 (fun f H locs hM_6 g => ?_)
  refine lv_aload_n hx hb dX7_wipe_30 rfl (lv_at hl 0 rfl) ?_
  refine lv_iconst (v := 0) hx hb dX7_wipe_31 (by decide) ?_
  refine g_put (C := RX7) (T := TX7) (N := 19) hx hb hts (mc_ inX7) tyX7 tyX7_ok nmX7 hown hK g ma0_ ka0_ (by decide) rfl 18 (by decide) (hts _ (List.mem_cons_of_mem _ t_680)) (fun _ h9 => h9) rfl rfl (okV_i (bd_sub kb_0 (by decide))) rfl rfl (by decide) (Or.inr (Or.inl (by decide))) (fx' := [(7, 17, a0_, .int 0), (7, 15, a0_, .int 0), (7, 13, a0_, .int 0), (7, 6, a0_, .int 0), (7, 3, a0_, .int 0), (7, 1, a0_, .int 0)]) rfl dX7_wipe_32 (fun f H locs hM_7 g => ?_)
  subst hQ
  exact W.vret hx hb hr (fun t ht hW => ⟨⟨_, rfl, (g.fcts [0, 1, 2, 3, 4, 5, 6] rfl), q3_of g hK ht hW⟩, g.2.2.1.F ht⟩) g.2.2.1.2.2 dX7_wipe_35
set_option maxHeartbeats 4000000 in
set_option maxRecDepth 100000 in
theorem r_X7_cellsOf (l : Launch) (dC : Nat → ClassId) (dI : Nat → Nat → Nat) (L : List Nat) (kd : Nat → Nat) (tys : List (ClassId × FieldType)) (f0 : Nat → va_E) (sz : Nat) (hWT : WT L kd tys f0) (a0_ : Nat) (ma0_ : a0_ ∈ L) (ka0_ : kd a0_ = 7) (x1_ : Int32) : Met l yX7_cellsOf (.code yX7_cellsOf cX7_cellsOf 2 (some .int) :: lw_g) ({ frames := 0, cells := 0, slots := 0, locals := 0 }) (va_Pc [.ref a0_, .int x1_] (P3 (dC, dI) L tys f0 sz)) (va_Qi (fun (r : Int32) (f : Nat → va_E) => (bd 0 24 r ∧ True)) (Q3 (dC, dI) L kd tys [] [] f0 sz) (pA L sz)) 0 0 (pA L sz) := by
  refine Met.ofW (cc := cX7_cellsOf) (maxL := 2) (ret := (some .int)) (by decide) rfl ?_
  intro p e s m args below meth c s₁ B hml hv
  obtain ⟨rfl, hsz, hP, hK, hD0⟩ := hv
  have hx := B.exec
  have hb := B.bytes
  have hr := B.returns
  have hts := atoms_spec (ws := (.code yX7_cellsOf cX7_cellsOf 2 (some .int) :: lw_g)) B.pre
  have hown : s.vm.findClass RX7 = some m.cls := findClass_of_methodNamed B.named
  have hlocks := B.notSynchronized
  subst hsz
  have g : G3 (dC, dI) L kd tys s f0 [] [] f0 s.heap [] [] := G3.start hP hD0 hWT Fs.nil
  have hl := lv_entry ([.ref a0_, .int x1_]) (n := 2) (Nat.le_of_ble_eq_true rfl)
  rw [lg_entry_eq]
  generalize (lg_sl ([.ref a0_, .int x1_]) ++ List.replicate (2 - (lg_sl ([.ref a0_, .int x1_])).length) Slot.unset).toArray = ls at hl ⊢
  have hl : lv_has ls 2 [(0, .ref a0_), (1, .int x1_)] := hl
  refine W_q (fun Q hQ => ?_)
  refine lv_iload_n hx hb dX7_cellsOf_0 rfl (lv_at hl 1 rfl) ?_
  have kb_0 : bd 0 0 (0 : Int32) := ⟨by decide, by decide⟩
  refine lv_if_lt (tgt := 24) hx hb dX7_cellsOf_1 (by decide) (fun c_1 => ?_) (fun c_1 => ?_)
  · have fc_1 := lt_f c_1
    have b_2 : bd (-2147483648) (-1) x1_ := ltL fc_1 (bdT x1_) kb_0 (by decide)
    refine lv_iconst (v := 0) hx hb dX7_cellsOf_24 (by decide) ?_
    subst hQ
    exact W.iret (v := 0) hx hb hr (fun t ht hW => ⟨⟨_, _, rfl, ⟨(bd_sub kb_0 (by decide)), trivial⟩, q3_of g hK ht hW⟩, g.2.2.1.F ht⟩) g.2.2.1.2.2 dX7_cellsOf_25
  · have fc_1 := nlt_f c_1
    have b_3 : bd 0 2147483647 x1_ := leR fc_1 kb_0 (bdT x1_) (by decide)
    refine lv_iload_n hx hb dX7_cellsOf_4 rfl (lv_at hl 1 rfl) ?_
    refine lv_aload_n hx hb dX7_cellsOf_5 rfl (lv_at hl 0 rfl) ?_
    refine g_geti (C := RX7) (T := TX7) (N := 19) hx hb hts (mc_ inX7) hown hK g ma0_ ka0_ (by decide) rfl 1 (by decide) rfl (hts _ (List.mem_cons_of_mem _ t_626)) (fun _ h9 => h9) rfl dX7_cellsOf_6 (fun x_4 bx_4 g => ?_)
    refine lv_icmp_ge (tgt := 24) hx hb dX7_cellsOf_9 (by decide) (fun c_5 => ?_) (fun c_5 => ?_)
    · have fc_5 := le_f c_5
      refine lv_iconst (v := 0) hx hb dX7_cellsOf_24 (by decide) ?_
      subst hQ
      exact W.iret (v := 0) hx hb hr (fun t ht hW => ⟨⟨_, _, rfl, ⟨(bd_sub kb_0 (by decide)), trivial⟩, q3_of g hK ht hW⟩, g.2.2.1.F ht⟩) g.2.2.1.2.2 dX7_cellsOf_25
    · have fc_5 := nle_f c_5
      have b_6 : bd 0 7 x1_ := ltL fc_5 b_3 bx_4 (by decide)
      have b_7 : bd 1 8 x_4 := ltR fc_5 b_3 bx_4 (by decide)
      refine lv_aload_n hx hb dX7_cellsOf_12 rfl (lv_at hl 0 rfl) ?_
      refine g_getr (K := 136) (C := RX7) (T := TX7) (N := 19) hx hb hts (mc_ inX7) hown hK g ma0_ ka0_ (by decide) rfl 0 (by decide) rfl (hts _ (List.mem_cons_of_mem _ t_620)) (fun _ h9 => h9) rfl dX7_cellsOf_13 (fun a_8 ma_8 ka_8 g => ?_)
      refine lv_iload_n hx hb dX7_cellsOf_16 rfl (lv_at hl 1 rfl) ?_
      refine g_aald hx hb hK g ma_8 ka_8 (by decide) rfl (by decide) (in_bd b_6 (by decide)) dX7_cellsOf_17 (fun a_9 ma_9 ua_9 wa_9 => ?_)
      have ka_9 : kd a_9 = 9 := by omega
      refine g_geti (C := RX9) (T := TX9) (N := 13) hx hb hts (mc_ inX9) hown hK g ma_9 ka_9 (by decide) rfl 7 (by decide) rfl (hts _ (List.mem_cons_of_mem _ t_494)) (fun _ h9 => h9) rfl dX7_cellsOf_18 (fun x_10 bx_10 g => ?_)
      refine lv_goto (tgt := 25) hx hb dX7_cellsOf_21 (by decide) ?_
      subst hQ
      exact W.iret (v := x_10) hx hb hr (fun t ht hW => ⟨⟨_, _, rfl, ⟨bx_10, trivial⟩, q3_of g hK ht hW⟩, g.2.2.1.F ht⟩) g.2.2.1.2.2 dX7_cellsOf_25
set_option maxHeartbeats 4000000 in
set_option maxRecDepth 100000 in
theorem r_X7_begunOf (l : Launch) (dC : Nat → ClassId) (dI : Nat → Nat → Nat) (L : List Nat) (kd : Nat → Nat) (tys : List (ClassId × FieldType)) (f0 : Nat → va_E) (sz : Nat) (hWT : WT L kd tys f0) (a0_ : Nat) (ma0_ : a0_ ∈ L) (ka0_ : kd a0_ = 7) (a1_ : Nat) (ma1_ : a1_ ∈ L) (ka1_ : kd a1_ = 6) : Met l yX7_begunOf (.code yX7_begunOf cX7_begunOf 4 (some .int) :: lw_g) ({ frames := 0, cells := 0, slots := 0, locals := 0 }) (va_Pc [.ref a0_, .ref a1_] (P3 (dC, dI) L tys f0 sz)) (va_Qi (fun (r : Int32) (f : Nat → va_E) => (True)) (Q3 (dC, dI) L kd tys [] [] f0 sz) (pA L sz)) 0 0 (pA L sz) := by
  refine Met.ofW (cc := cX7_begunOf) (maxL := 4) (ret := (some .int)) (by decide) rfl ?_
  intro p e s m args below meth c s₁ B hml hv
  obtain ⟨rfl, hsz, hP, hK, hD0⟩ := hv
  have hx := B.exec
  have hb := B.bytes
  have hr := B.returns
  have hts := atoms_spec (ws := (.code yX7_begunOf cX7_begunOf 4 (some .int) :: lw_g)) B.pre
  have hown : s.vm.findClass RX7 = some m.cls := findClass_of_methodNamed B.named
  have hlocks := B.notSynchronized
  subst hsz
  have g : G3 (dC, dI) L kd tys s f0 [] [] f0 s.heap [] [] := G3.start hP hD0 hWT Fs.nil
  have hl := lv_entry ([.ref a0_, .ref a1_]) (n := 4) (Nat.le_of_ble_eq_true rfl)
  rw [lg_entry_eq]
  generalize (lg_sl ([.ref a0_, .ref a1_]) ++ List.replicate (4 - (lg_sl ([.ref a0_, .ref a1_])).length) Slot.unset).toArray = ls at hl ⊢
  have hl : lv_has ls 4 [(0, .ref a0_), (1, .ref a1_)] := hl
  refine W_q (fun Q hQ => ?_)
  refine lv_iconst (v := 0) hx hb dX7_begunOf_0 (by decide) ?_
  refine lv_istore_n (lv' := [(2, .int 0), (0, .ref a0_), (1, .ref a1_)]) hx hb dX7_begunOf_1 rfl hl (by decide) rfl (fun ls hl => ?_)
  refine lv_aload_n hx hb dX7_begunOf_2 rfl (lv_at hl 2 rfl) ?_
  refine g_geti (C := RX6) (T := TX6) (N := 13) hx hb hts (mc_ inX6) hown hK g ma1_ ka1_ (by decide) rfl 9 (by decide) rfl (hts _ (List.mem_cons_of_mem _ t_584)) (fun _ h9 => h9) rfl dX7_begunOf_3 (fun x_1 bx_1 g => ?_)
  refine lv_istore_n (lv' := [(3, .int x_1), (2, .int 0), (0, .ref a0_), (1, .ref a1_)]) hx hb dX7_begunOf_6 rfl hl (by decide) rfl (fun ls hl => ?_)
  have loop_2 : ∀ (n : Nat) (v7_3 : Int32) (v7_2 : Int32), bd 0 420 v7_3 → (420 - v7_3.toInt < (n : Int)) → ∀ (f : Nat → va_E) (H : Heap) (locs : List Loc) (ls : Array Slot), G3 (dC, dI) L kd tys s f0 [] [] f H locs [(6, 9, a1_, .int x_1)] → lv_has ls 4 [(3, .int v7_3), (2, .int v7_2), (0, .ref a0_), (1, .ref a1_)] → W p l e ({ frames := 0, cells := 0, slots := 0, locals := 0 } : Room) s m [.ref a0_, .ref a1_].toArray below meth c H locs 0 0 Q (F0 m 7 ls []) := by
    intro n7
    induction n7 with
    | zero =>
      intro v7_3 v7_2 bv7_3  hm7 f H locs ls g  hl
      exact absurd hm7 (by have h9_v7_3 := bv7_3; unfold bd at h9_v7_3; have h9_v7_2 := bdT v7_2; unfold bd at h9_v7_2; omega)
    | succ n7 ih7 =>
      intro v7_3 v7_2 bv7_3  hm7 f H locs ls g  hl
      refine lv_iload_n hx hb dX7_begunOf_7 rfl (lv_at hl 0 rfl) ?_
      refine lv_aload_n hx hb dX7_begunOf_8 rfl (lv_at hl 3 rfl) ?_
      refine g_getk (C := RX6) (T := TX6) (N := 13) hx hb hts (mc_ inX6) hown hK g rfl 9 (by decide) rfl (hts _ (List.mem_cons_of_mem _ t_584)) (fun _ h9 => h9) 0 rfl dX7_begunOf_9 ?_
      refine lv_aload_n hx hb dX7_begunOf_12 rfl (lv_at hl 3 rfl) ?_
      refine g_geti (C := RX6) (T := TX6) (N := 13) hx hb hts (mc_ inX6) hown hK g ma1_ ka1_ (by decide) rfl 10 (by decide) rfl (hts _ (List.mem_cons_of_mem _ t_586)) (fun _ h9 => h9) rfl dX7_begunOf_13 (fun x_3 bx_3 g => ?_)
      refine lv_iadd hx hb dX7_begunOf_16 ?_
      refine lv_topi (fun y_4 ey_4 => ?_)
      refine lv_icmp_ge (tgt := 51) hx hb dX7_begunOf_17 (by decide) (fun c_5 => ?_) (fun c_5 => ?_)
      · have fc_5 := le_f c_5
        have b_6 : bd (-2147483648) 420 y_4 := leL fc_5 (bdT y_4) bv7_3 (by decide)
        refine lv_iload_n hx hb dX7_begunOf_51 rfl (lv_at hl 1 rfl) ?_
        subst hQ
        exact W.iret (v := v7_2) hx hb hr (fun t ht hW => ⟨⟨_, _, rfl, trivial, q3_of g hK ht hW⟩, g.2.2.1.F ht⟩) g.2.2.1.2.2 dX7_begunOf_52
      · have fc_5 := nle_f c_5
        have b_7 : bd 1 2147483647 y_4 := ltR fc_5 bv7_3 (bdT y_4) (by decide)
        refine lv_iload_n hx hb dX7_begunOf_20 rfl (lv_at hl 0 rfl) ?_
        refine lv_aload_n hx hb dX7_begunOf_21 rfl (lv_at hl 2 rfl) ?_
        refine g_geti (C := RX7) (T := TX7) (N := 19) hx hb hts (mc_ inX7) hown hK g ma0_ ka0_ (by decide) rfl 15 (by decide) rfl (hts _ (List.mem_cons_of_mem _ t_673)) (fun _ h9 => h9) rfl dX7_begunOf_22 (fun x_8 bx_8 g => ?_)
        refine lv_icmp_ge (tgt := 51) hx hb dX7_begunOf_25 (by decide) (fun c_9 => ?_) (fun c_9 => ?_)
        · have fc_9 := le_f c_9
          refine lv_iload_n hx hb dX7_begunOf_51 rfl (lv_at hl 1 rfl) ?_
          subst hQ
          exact W.iret (v := v7_2) hx hb hr (fun t ht hW => ⟨⟨_, _, rfl, trivial, q3_of g hK ht hW⟩, g.2.2.1.F ht⟩) g.2.2.1.2.2 dX7_begunOf_52
        · have fc_9 := nle_f c_9
          have b_10 : bd 0 419 v7_3 := ltL fc_9 bv7_3 bx_8 (by decide)
          have b_11 : bd 1 420 x_8 := ltR fc_9 bv7_3 bx_8 (by decide)
          refine lv_iload_n hx hb dX7_begunOf_28 rfl (lv_at hl 1 rfl) ?_
          refine lv_aload_n hx hb dX7_begunOf_29 rfl (lv_at hl 2 rfl) ?_
          refine g_getr (K := 146) (C := RX7) (T := TX7) (N := 19) hx hb hts (mc_ inX7) hown hK g ma0_ ka0_ (by decide) rfl 14 (by decide) rfl (hts _ (List.mem_cons_of_mem _ t_671)) (fun _ h9 => h9) rfl dX7_begunOf_30 (fun a_12 ma_12 ka_12 g => ?_)
          refine lv_iload_n hx hb dX7_begunOf_33 rfl (lv_at hl 0 rfl) ?_
          refine g_zald hx hb hK g ma_12 ka_12 (by decide) rfl (in_bd b_10 (by decide)) dX7_begunOf_34 (fun x_13 bx_13 => ?_)
          have kb_0 : bd 0 0 (0 : Int32) := ⟨by decide, by decide⟩
          refine lv_if_eq (tgt := 42) hx hb dX7_begunOf_35 (by decide) (fun c_14 => ?_) (fun c_14 => ?_)
          · have fc_14 := eq_f c_14
            have b_15 : bd 0 0 x_13 := eqX fc_14 bx_13 kb_0 (by decide)
            refine lv_iconst (v := 0) hx hb dX7_begunOf_42 (by decide) ?_
            refine lv_iadd hx hb dX7_begunOf_43 ?_
            refine lv_topi (fun y_16 ey_16 => ?_)
            have ty_16 := add_bd ey_16 (bdT v7_2) kb_0 (by decide)
            have b_17 : bd (-2147483648) 2147483647 y_16 := add_rg ty_16 (bdT v7_2) kb_0 (by decide)
            refine lv_istore_n (lv' := [(2, .int y_16), (3, .int v7_3), (0, .ref a0_), (1, .ref a1_)]) hx hb dX7_begunOf_44 rfl hl (by decide) rfl (fun ls hl => ?_)
            have kb_1 : bd 1 1 (1 : Int32) := ⟨by decide, by decide⟩
            obtain ⟨y_18, ey_18⟩ : ∃ z : Int32, z = v7_3 + 1 := ⟨_, rfl⟩
            refine lv_iinc (v := y_18) (lv' := [(3, .int y_18), (2, .int y_16), (0, .ref a0_), (1, .ref a1_)]) hx hb dX7_begunOf_45 hl (k := 1) rfl (by rw [ey_18]; rfl) (by decide) rfl (fun ls hl => ?_)
            have ty_18 := add_bd ey_18 b_10 kb_1 (by decide)
            have b_19 : bd 1 420 y_18 := add_rg ty_18 b_10 kb_1 (by decide)
            refine lv_goto (tgt := 7) hx hb dX7_begunOf_48 (by decide) ?_
            have hl9 := lv_sub hl [0, 1, 2, 3] (by rfl : lv_pick [(3, .int y_18), (2, .int y_16), (0, .ref a0_), (1, .ref a1_)] [0, 1, 2, 3] = [(3, .int y_18), (2, .int y_16), (0, .ref a0_), (1, .ref a1_)])
            have g9 := g.sub (fx' := [(6, 9, a1_, .int x_1)]) [3] rfl
            exact ih7  y_18 y_16 (bd_sub b_19 (by decide)) (by have h9_0 := b_17; unfold bd at h9_0; have h9_1 := b_19; unfold bd at h9_1; have h9_2 := bdT v7_2; unfold bd at h9_2; have h9_3 := bv7_3; unfold bd at h9_3; have h9_4 := kb_0; unfold bd at h9_4; have h9_5 := kb_1; unfold bd at h9_5; omega) _ _ _ _ g9  hl9
          · have fc_14 := neq_f c_14
            have b_20 : bd 1 1 x_13 := neX fc_14 bx_13 kb_0 (by decide)
            refine lv_iconst (v := 1) hx hb dX7_begunOf_38 (by decide) ?_
            refine lv_goto (tgt := 43) hx hb dX7_begunOf_39 (by decide) ?_
            have kb_1 : bd 1 1 (1 : Int32) := ⟨by decide, by decide⟩
            refine lv_iadd hx hb dX7_begunOf_43 ?_
            refine lv_topi (fun y_21 ey_21 => ?_)
            refine lv_istore_n (lv' := [(2, .int y_21), (3, .int v7_3), (0, .ref a0_), (1, .ref a1_)]) hx hb dX7_begunOf_44 rfl hl (by decide) rfl (fun ls hl => ?_)
            obtain ⟨y_22, ey_22⟩ : ∃ z : Int32, z = v7_3 + 1 := ⟨_, rfl⟩
            refine lv_iinc (v := y_22) (lv' := [(3, .int y_22), (2, .int y_21), (0, .ref a0_), (1, .ref a1_)]) hx hb dX7_begunOf_45 hl (k := 1) rfl (by rw [ey_22]; rfl) (by decide) rfl (fun ls hl => ?_)
            have ty_22 := add_bd ey_22 b_10 kb_1 (by decide)
            have b_23 : bd 1 420 y_22 := add_rg ty_22 b_10 kb_1 (by decide)
            refine lv_goto (tgt := 7) hx hb dX7_begunOf_48 (by decide) ?_
            have hl9 := lv_sub hl [0, 1, 2, 3] (by rfl : lv_pick [(3, .int y_22), (2, .int y_21), (0, .ref a0_), (1, .ref a1_)] [0, 1, 2, 3] = [(3, .int y_22), (2, .int y_21), (0, .ref a0_), (1, .ref a1_)])
            have g9 := g.sub (fx' := [(6, 9, a1_, .int x_1)]) [3] rfl
            exact ih7  y_22 y_21 (bd_sub b_23 (by decide)) (by have h9_0 := b_23; unfold bd at h9_0; have h9_1 := bdT v7_2; unfold bd at h9_1; have h9_2 := bdT y_21; unfold bd at h9_2; have h9_3 := bv7_3; unfold bd at h9_3; have h9_4 := kb_0; unfold bd at h9_4; have h9_5 := kb_1; unfold bd at h9_5; omega) _ _ _ _ g9  hl9
  have kb_0 : bd 0 0 (0 : Int32) := ⟨by decide, by decide⟩
  have hl9 := lv_sub hl [0, 1, 2, 3] (by rfl : lv_pick [(3, .int x_1), (2, .int 0), (0, .ref a0_), (1, .ref a1_)] [0, 1, 2, 3] = [(3, .int x_1), (2, .int 0), (0, .ref a0_), (1, .ref a1_)])
  have g9 := g.sub (fx' := [(6, 9, a1_, .int x_1)]) [0] rfl
  exact loop_2 (843) x_1 0 bx_1 (by have h9_0 := bx_1; unfold bd at h9_0; have h9_1 := kb_0; unfold bd at h9_1; omega) _ _ _ _ g9  hl9
set_option maxHeartbeats 4000000 in
set_option maxRecDepth 100000 in
theorem r_X7_addStatement (l : Launch) (dC : Nat → ClassId) (dI : Nat → Nat → Nat) (L : List Nat) (kd : Nat → Nat) (tys : List (ClassId × FieldType)) (f0 : Nat → va_E) (sz : Nat) (hWT : WT L kd tys f0) (a0_ : Nat) (ma0_ : a0_ ∈ L) (ka0_ : kd a0_ = 7) : Met l yX7_addStatement (.code yX7_addStatement cX7_addStatement 2 (some .int) :: lw_g) ({ frames := 1, cells := 0, slots := 0, locals := 13 }) (va_Pc [.ref a0_] (P3 (dC, dI) L tys f0 sz)) (va_Qi (fun (r : Int32) (f : Nat → va_E) => (bd 0 419 r ∧ ∃ z0_ : Int32, bd 1 420 z0_ ∧ Fs L kd f [(7, 15, a0_, .int z0_)])) (Q3 (dC, dI) L kd tys [(7, 15)] [146] f0 sz) (pA L sz)) 0 0 (pA L sz) := by
  refine Met.ofW (cc := cX7_addStatement) (maxL := 2) (ret := (some .int)) (by decide) rfl ?_
  intro p e s m args below meth c s₁ B hml hv
  obtain ⟨rfl, hsz, hP, hK, hD0⟩ := hv
  have hx := B.exec
  have hb := B.bytes
  have hr := B.returns
  have hts := atoms_spec (ws := (.code yX7_addStatement cX7_addStatement 2 (some .int) :: lw_g)) B.pre
  have hown : s.vm.findClass RX7 = some m.cls := findClass_of_methodNamed B.named
  have hlocks := B.notSynchronized
  subst hsz
  have g : G3 (dC, dI) L kd tys s f0 [(7, 15)] [146] f0 s.heap [] [] := G3.start hP hD0 hWT Fs.nil
  have hl := lv_entry ([.ref a0_]) (n := 2) (Nat.le_of_ble_eq_true rfl)
  rw [lg_entry_eq]
  generalize (lg_sl ([.ref a0_]) ++ List.replicate (2 - (lg_sl ([.ref a0_])).length) Slot.unset).toArray = ls at hl ⊢
  have hl : lv_has ls 2 [(0, .ref a0_)] := hl
  refine W_q (fun Q hQ => ?_)
  refine lv_aload_n hx hb dX7_addStatement_0 rfl (lv_at hl 0 rfl) ?_
  refine g_geti (C := RX7) (T := TX7) (N := 19) hx hb hts (mc_ inX7) hown hK g ma0_ ka0_ (by decide) rfl 15 (by decide) rfl (hts _ (List.mem_cons_of_mem _ t_673)) (fun _ h9 => h9) rfl dX7_addStatement_1 (fun x_1 bx_1 g => ?_)
  refine lv_sipush (v := 419) hx hb dX7_addStatement_4 (by decide) ?_
  have kb_419 : bd 419 419 (419 : Int32) := ⟨by decide, by decide⟩
  refine va_mmin hx hb (hml.trans hl.1.symm) hown (hts _ (List.mem_cons_of_mem _ t_1177)) (hts _ (List.mem_cons_of_mem _ t_998)) (hts _ (List.mem_cons_of_mem _ t_204)) (hts _ (List.mem_cons_of_mem _ t_999)) (Nat.le_of_ble_eq_true rfl) (Nat.le_of_ble_eq_true rfl) (Nat.le_of_ble_eq_true rfl) (Nat.le_of_ble_eq_true rfl) dX7_addStatement_7 ?_
  refine lv_topi (fun y_2 ey_2 => ?_)
  have ty_2 : y_2.toInt = min x_1.toInt (419 : Int32).toInt := by rw [ey_2]; exact mmin_ok _ _
  have b_3 : bd 0 419 y_2 := min_rg ty_2 bx_1 kb_419 (by decide)
  refine lv_istore_n (lv' := [(1, .int y_2), (0, .ref a0_)]) hx hb dX7_addStatement_10 rfl hl (by decide) rfl (fun ls hl => ?_)
  refine lv_aload_n hx hb dX7_addStatement_11 rfl (lv_at hl 1 rfl) ?_
  refine g_getr (K := 146) (C := RX7) (T := TX7) (N := 19) hx hb hts (mc_ inX7) hown hK g ma0_ ka0_ (by decide) rfl 14 (by decide) rfl (hts _ (List.mem_cons_of_mem _ t_671)) (fun _ h9 => h9) rfl dX7_addStatement_12 (fun a_4 ma_4 ka_4 g => ?_)
  refine lv_iload_n hx hb dX7_addStatement_15 rfl (lv_at hl 0 rfl) ?_
  refine lv_iconst (v := 0) hx hb dX7_addStatement_16 (by decide) ?_
  have kb_0 : bd 0 0 (0 : Int32) := ⟨by decide, by decide⟩
  refine g_zast hx hb hK g ma_4 ka_4 (by decide) rfl (in_bd b_3 (by decide)) (bd_sub kb_0 (by decide)) (by decide) dX7_addStatement_17 (fun f H locs hM_5 g => ?_)
  refine lv_aload_n hx hb dX7_addStatement_18 rfl (lv_at hl 1 rfl) ?_
  refine lv_iload_n hx hb dX7_addStatement_19 rfl (lv_at hl 0 rfl) ?_
  refine lv_iconst (v := 1) hx hb dX7_addStatement_20 (by decide) ?_
  have kb_1 : bd 1 1 (1 : Int32) := ⟨by decide, by decide⟩
  refine lv_iadd hx hb dX7_addStatement_21 ?_
  refine lv_topi (fun y_6 ey_6 => ?_)
  have ty_6 := add_bd ey_6 b_3 kb_1 (by decide)
  have b_7 : bd 1 420 y_6 := add_rg ty_6 b_3 kb_1 (by decide)
  refine g_put (C := RX7) (T := TX7) (N := 19) hx hb hts (mc_ inX7) tyX7 tyX7_ok nmX7 hown hK g ma0_ ka0_ (by decide) rfl 15 (by decide) (hts _ (List.mem_cons_of_mem _ t_673)) (fun _ h9 => h9) rfl rfl (okV_i (bd_sub b_7 (by decide))) rfl rfl (by decide) (Or.inr (Or.inl (by decide))) (fx' := [(7, 14, a0_, .ref a_4)]) rfl dX7_addStatement_22 (fun f H locs hM_8 g => ?_)
  refine lv_iload_n hx hb dX7_addStatement_25 rfl (lv_at hl 0 rfl) ?_
  subst hQ
  exact W.iret (v := y_2) hx hb hr (fun t ht hW => ⟨⟨_, _, rfl, ⟨b_3, y_6, b_7, (g.fcts [0] rfl)⟩, q3_of g hK ht hW⟩, g.2.2.1.F ht⟩) g.2.2.1.2.2 dX7_addStatement_26
set_option maxHeartbeats 4000000 in
set_option maxRecDepth 100000 in
theorem r_X8_codeOf (l : Launch) (dC : Nat → ClassId) (dI : Nat → Nat → Nat) (L : List Nat) (kd : Nat → Nat) (tys : List (ClassId × FieldType)) (f0 : Nat → va_E) (sz : Nat) (hWT : WT L kd tys f0) (x0_ : Int32) : Met l yX8_codeOf (.code yX8_codeOf cX8_codeOf 1 (some .int) :: lw_g) ({ frames := 0, cells := 0, slots := 0, locals := 0 }) (va_Pc [.int x0_] (P3 (dC, dI) L tys f0 sz)) (va_Qi (fun (r : Int32) (f : Nat → va_E) => (bd 0 37 r ∧ True)) (Q3 (dC, dI) L kd tys [] [] f0 sz) (pA L sz)) 0 0 (pA L sz) := by
  refine Met.ofW (cc := cX8_codeOf) (maxL := 1) (ret := (some .int)) (by decide) rfl ?_
  intro p e s m args below meth c s₁ B hml hv
  obtain ⟨rfl, hsz, hP, hK, hD0⟩ := hv
  have hx := B.exec
  have hb := B.bytes
  have hr := B.returns
  have hts := atoms_spec (ws := (.code yX8_codeOf cX8_codeOf 1 (some .int) :: lw_g)) B.pre
  have hown : s.vm.findClass RX8 = some m.cls := findClass_of_methodNamed B.named
  have hlocks := B.notSynchronized
  subst hsz
  have g : G3 (dC, dI) L kd tys s f0 [] [] f0 s.heap [] [] := G3.start hP hD0 hWT Fs.nil
  have hl := lv_entry ([.int x0_]) (n := 1) (Nat.le_of_ble_eq_true rfl)
  rw [lg_entry_eq]
  generalize (lg_sl ([.int x0_]) ++ List.replicate (1 - (lg_sl ([.int x0_])).length) Slot.unset).toArray = ls at hl ⊢
  have hl : lv_has ls 1 [(0, .int x0_)] := hl
  refine W_q (fun Q hQ => ?_)
  refine lv_iload_n hx hb dX8_codeOf_0 rfl (lv_at hl 0 rfl) ?_
  refine lv_bipush (v := 97) hx hb dX8_codeOf_1 (by decide) ?_
  have kb_97 : bd 97 97 (97 : Int32) := ⟨by decide, by decide⟩
  refine lv_icmp_lt (tgt := 19) hx hb dX8_codeOf_3 (by decide) (fun c_1 => ?_) (fun c_1 => ?_)
  · have fc_1 := lt_f c_1
    have b_2 : bd (-2147483648) 96 x0_ := ltL fc_1 (bdT x0_) kb_97 (by decide)
    refine lv_iload_n hx hb dX8_codeOf_19 rfl (lv_at hl 0 rfl) ?_
    refine lv_bipush (v := 48) hx hb dX8_codeOf_20 (by decide) ?_
    have kb_48 : bd 48 48 (48 : Int32) := ⟨by decide, by decide⟩
    refine lv_icmp_lt (tgt := 39) hx hb dX8_codeOf_22 (by decide) (fun c_3 => ?_) (fun c_3 => ?_)
    · have fc_3 := lt_f c_3
      have b_4 : bd (-2147483648) 47 x0_ := ltL fc_3 b_2 kb_48 (by decide)
      refine lv_iload_n hx hb dX8_codeOf_39 rfl (lv_at hl 0 rfl) ?_
      refine lv_bipush (v := 95) hx hb dX8_codeOf_40 (by decide) ?_
      have kb_95 : bd 95 95 (95 : Int32) := ⟨by decide, by decide⟩
      refine lv_icmp_ne (tgt := 50) hx hb dX8_codeOf_42 (by decide) (fun c_5 => ?_) (fun c_5 => ?_)
      · have fc_5 := neq_f c_5
        refine lv_iconst (v := 0) hx hb dX8_codeOf_50 (by decide) ?_
        have kb_0 : bd 0 0 (0 : Int32) := ⟨by decide, by decide⟩
        subst hQ
        exact W.iret (v := 0) hx hb hr (fun t ht hW => ⟨⟨_, _, rfl, ⟨(bd_sub kb_0 (by decide)), trivial⟩, q3_of g hK ht hW⟩, g.2.2.1.F ht⟩) g.2.2.1.2.2 dX8_codeOf_51
      · have fc_5 := eq_f c_5
        have b_6 : bd 95 47 x0_ := eqX fc_5 b_4 kb_95 (by decide)
        exact bd_no b_6 (by decide)
    · have fc_3 := nlt_f c_3
      have b_7 : bd 48 96 x0_ := leR fc_3 kb_48 b_2 (by decide)
      refine lv_iload_n hx hb dX8_codeOf_25 rfl (lv_at hl 0 rfl) ?_
      refine lv_bipush (v := 57) hx hb dX8_codeOf_26 (by decide) ?_
      have kb_57 : bd 57 57 (57 : Int32) := ⟨by decide, by decide⟩
      refine lv_icmp_gt (tgt := 39) hx hb dX8_codeOf_28 (by decide) (fun c_8 => ?_) (fun c_8 => ?_)
      · have fc_8 := lt_f c_8
        have b_9 : bd 58 96 x0_ := ltR fc_8 kb_57 b_7 (by decide)
        refine lv_iload_n hx hb dX8_codeOf_39 rfl (lv_at hl 0 rfl) ?_
        refine lv_bipush (v := 95) hx hb dX8_codeOf_40 (by decide) ?_
        have kb_95 : bd 95 95 (95 : Int32) := ⟨by decide, by decide⟩
        refine lv_icmp_ne (tgt := 50) hx hb dX8_codeOf_42 (by decide) (fun c_10 => ?_) (fun c_10 => ?_)
        · have fc_10 := neq_f c_10
          refine lv_iconst (v := 0) hx hb dX8_codeOf_50 (by decide) ?_
          have kb_0 : bd 0 0 (0 : Int32) := ⟨by decide, by decide⟩
          subst hQ
          exact W.iret (v := 0) hx hb hr (fun t ht hW => ⟨⟨_, _, rfl, ⟨(bd_sub kb_0 (by decide)), trivial⟩, q3_of g hK ht hW⟩, g.2.2.1.F ht⟩) g.2.2.1.2.2 dX8_codeOf_51
        · have fc_10 := eq_f c_10
          have b_11 : bd 95 95 x0_ := eqX fc_10 b_9 kb_95 (by decide)
          refine lv_bipush (v := 37) hx hb dX8_codeOf_45 (by decide) ?_
          refine lv_goto (tgt := 51) hx hb dX8_codeOf_47 (by decide) ?_
          have kb_37 : bd 37 37 (37 : Int32) := ⟨by decide, by decide⟩
          subst hQ
          exact W.iret (v := 37) hx hb hr (fun t ht hW => ⟨⟨_, _, rfl, ⟨(bd_sub kb_37 (by decide)), trivial⟩, q3_of g hK ht hW⟩, g.2.2.1.F ht⟩) g.2.2.1.2.2 dX8_codeOf_51
      · have fc_8 := nlt_f c_8
        have b_12 : bd 48 57 x0_ := leL fc_8 b_7 kb_57 (by decide)
        refine lv_iload_n hx hb dX8_codeOf_31 rfl (lv_at hl 0 rfl) ?_
        refine lv_bipush (v := 48) hx hb dX8_codeOf_32 (by decide) ?_
        refine lv_isub hx hb dX8_codeOf_34 ?_
        refine lv_topi (fun y_13 ey_13 => ?_)
        have ty_13 := sub_bd ey_13 b_12 kb_48 (by decide)
        have b_14 : bd 0 9 y_13 := sub_rg ty_13 b_12 kb_48 (by decide)
        refine lv_bipush (v := 27) hx hb dX8_codeOf_35 (by decide) ?_
        have kb_27 : bd 27 27 (27 : Int32) := ⟨by decide, by decide⟩
        refine lv_iadd hx hb dX8_codeOf_37 ?_
        refine lv_topi (fun y_15 ey_15 => ?_)
        have ty_15 := add_bd ey_15 b_14 kb_27 (by decide)
        have b_16 : bd 27 36 y_15 := add_rg ty_15 b_14 kb_27 (by decide)
        subst hQ
        exact W.iret (v := y_15) hx hb hr (fun t ht hW => ⟨⟨_, _, rfl, ⟨(bd_sub b_16 (by decide)), trivial⟩, q3_of g hK ht hW⟩, g.2.2.1.F ht⟩) g.2.2.1.2.2 dX8_codeOf_38
  · have fc_1 := nlt_f c_1
    have b_17 : bd 97 2147483647 x0_ := leR fc_1 kb_97 (bdT x0_) (by decide)
    refine lv_iload_n hx hb dX8_codeOf_6 rfl (lv_at hl 0 rfl) ?_
    refine lv_bipush (v := 122) hx hb dX8_codeOf_7 (by decide) ?_
    have kb_122 : bd 122 122 (122 : Int32) := ⟨by decide, by decide⟩
    refine lv_icmp_gt (tgt := 19) hx hb dX8_codeOf_9 (by decide) (fun c_18 => ?_) (fun c_18 => ?_)
    · have fc_18 := lt_f c_18
      have b_19 : bd 123 2147483647 x0_ := ltR fc_18 kb_122 b_17 (by decide)
      refine lv_iload_n hx hb dX8_codeOf_19 rfl (lv_at hl 0 rfl) ?_
      refine lv_bipush (v := 48) hx hb dX8_codeOf_20 (by decide) ?_
      have kb_48 : bd 48 48 (48 : Int32) := ⟨by decide, by decide⟩
      refine lv_icmp_lt (tgt := 39) hx hb dX8_codeOf_22 (by decide) (fun c_20 => ?_) (fun c_20 => ?_)
      · have fc_20 := lt_f c_20
        have b_21 : bd 123 47 x0_ := ltL fc_20 b_19 kb_48 (by decide)
        exact bd_no b_21 (by decide)
      · have fc_20 := nlt_f c_20
        refine lv_iload_n hx hb dX8_codeOf_25 rfl (lv_at hl 0 rfl) ?_
        refine lv_bipush (v := 57) hx hb dX8_codeOf_26 (by decide) ?_
        have kb_57 : bd 57 57 (57 : Int32) := ⟨by decide, by decide⟩
        refine lv_icmp_gt (tgt := 39) hx hb dX8_codeOf_28 (by decide) (fun c_22 => ?_) (fun c_22 => ?_)
        · have fc_22 := lt_f c_22
          refine lv_iload_n hx hb dX8_codeOf_39 rfl (lv_at hl 0 rfl) ?_
          refine lv_bipush (v := 95) hx hb dX8_codeOf_40 (by decide) ?_
          have kb_95 : bd 95 95 (95 : Int32) := ⟨by decide, by decide⟩
          refine lv_icmp_ne (tgt := 50) hx hb dX8_codeOf_42 (by decide) (fun c_23 => ?_) (fun c_23 => ?_)
          · have fc_23 := neq_f c_23
            refine lv_iconst (v := 0) hx hb dX8_codeOf_50 (by decide) ?_
            have kb_0 : bd 0 0 (0 : Int32) := ⟨by decide, by decide⟩
            subst hQ
            exact W.iret (v := 0) hx hb hr (fun t ht hW => ⟨⟨_, _, rfl, ⟨(bd_sub kb_0 (by decide)), trivial⟩, q3_of g hK ht hW⟩, g.2.2.1.F ht⟩) g.2.2.1.2.2 dX8_codeOf_51
          · have fc_23 := eq_f c_23
            have b_24 : bd 123 95 x0_ := eqX fc_23 b_19 kb_95 (by decide)
            exact bd_no b_24 (by decide)
        · have fc_22 := nlt_f c_22
          have b_25 : bd 123 57 x0_ := leL fc_22 b_19 kb_57 (by decide)
          exact bd_no b_25 (by decide)
    · have fc_18 := nlt_f c_18
      have b_26 : bd 97 122 x0_ := leL fc_18 b_17 kb_122 (by decide)
      refine lv_iload_n hx hb dX8_codeOf_12 rfl (lv_at hl 0 rfl) ?_
      refine lv_bipush (v := 97) hx hb dX8_codeOf_13 (by decide) ?_
      refine lv_isub hx hb dX8_codeOf_15 ?_
      refine lv_topi (fun y_27 ey_27 => ?_)
      have ty_27 := sub_bd ey_27 b_26 kb_97 (by decide)
      have b_28 : bd 0 25 y_27 := sub_rg ty_27 b_26 kb_97 (by decide)
      refine lv_iconst (v := 1) hx hb dX8_codeOf_16 (by decide) ?_
      have kb_1 : bd 1 1 (1 : Int32) := ⟨by decide, by decide⟩
      refine lv_iadd hx hb dX8_codeOf_17 ?_
      refine lv_topi (fun y_29 ey_29 => ?_)
      have ty_29 := add_bd ey_29 b_28 kb_1 (by decide)
      have b_30 : bd 1 26 y_29 := add_rg ty_29 b_28 kb_1 (by decide)
      subst hQ
      exact W.iret (v := y_29) hx hb hr (fun t ht hW => ⟨⟨_, _, rfl, ⟨(bd_sub b_30 (by decide)), trivial⟩, q3_of g hK ht hW⟩, g.2.2.1.F ht⟩) g.2.2.1.2.2 dX8_codeOf_18
set_option maxHeartbeats 4000000 in
set_option maxRecDepth 100000 in
theorem r_X8_letterOf (l : Launch) (dC : Nat → ClassId) (dI : Nat → Nat → Nat) (L : List Nat) (kd : Nat → Nat) (tys : List (ClassId × FieldType)) (f0 : Nat → va_E) (sz : Nat) (hWT : WT L kd tys f0) (x0_ : Int64) (x1_ : Int32) : Met l yX8_letterOf (.code yX8_letterOf cX8_letterOf 7 (some .int) :: lw_g) ({ frames := 0, cells := 0, slots := 0, locals := 0 }) (va_Pc [.long x0_, .int x1_] (P3 (dC, dI) L tys f0 sz)) (va_Qi (fun (r : Int32) (f : Nat → va_E) => (True)) (Q3 (dC, dI) L kd tys [] [] f0 sz) (pA L sz)) 0 0 (pA L sz) := by
  refine Met.ofW (cc := cX8_letterOf) (maxL := 7) (ret := (some .int)) (by decide) rfl ?_
  intro p e s m args below meth c s₁ B hml hv
  obtain ⟨rfl, hsz, hP, hK, hD0⟩ := hv
  have hx := B.exec
  have hb := B.bytes
  have hr := B.returns
  have hts := atoms_spec (ws := (.code yX8_letterOf cX8_letterOf 7 (some .int) :: lw_g)) B.pre
  have hown : s.vm.findClass RX8 = some m.cls := findClass_of_methodNamed B.named
  have hlocks := B.notSynchronized
  subst hsz
  have g : G3 (dC, dI) L kd tys s f0 [] [] f0 s.heap [] [] := G3.start hP hD0 hWT Fs.nil
  have hl := lv_entry ([.long x0_, .int x1_]) (n := 7) (Nat.le_of_ble_eq_true rfl)
  rw [lg_entry_eq]
  generalize (lg_sl ([.long x0_, .int x1_]) ++ List.replicate (7 - (lg_sl ([.long x0_, .int x1_])).length) Slot.unset).toArray = ls at hl ⊢
  have hl : lv_has ls 7 [(0, .long x0_), (2, .int x1_)] := hl
  refine W_q (fun Q hQ => ?_)
  refine lv_iconst (v := 0) hx hb dX8_letterOf_0 (by decide) ?_
  refine lv_istore_n (lv' := [(3, .int 0), (0, .long x0_), (2, .int x1_)]) hx hb dX8_letterOf_1 rfl hl (by decide) rfl (fun ls hl => ?_)
  refine lv_lload_n hx hb dX8_letterOf_2 rfl (lv_at hl 1 rfl) ?_
  refine lv_lstore (lv' := [(4, .long x0_), (3, .int 0), (0, .long x0_), (2, .int x1_)]) hx hb dX8_letterOf_3 hl (by decide) rfl (fun ls hl => ?_)
  have loop_1 : ∀ (n : Nat) (v5_4 : Int64) (v5_3 : Int32), bd 0 12 v5_3 → (12 - v5_3.toInt < (n : Int)) → ∀ (f : Nat → va_E) (H : Heap) (locs : List Loc) (ls : Array Slot), G3 (dC, dI) L kd tys s f0 [] [] f H locs [] → lv_has ls 7 [(4, .long v5_4), (3, .int v5_3), (0, .long x0_), (2, .int x1_)] → W p l e ({ frames := 0, cells := 0, slots := 0, locals := 0 } : Room) s m [.long x0_, .int x1_].toArray below meth c H locs 0 0 Q (F0 m 5 ls []) := by
    intro n5
    induction n5 with
    | zero =>
      intro v5_4 v5_3  bv5_3 hm5 f H locs ls g  hl
      exact absurd hm5 (by have h9_v5_3 := bv5_3; unfold bd at h9_v5_3; omega)
    | succ n5 ih5 =>
      intro v5_4 v5_3  bv5_3 hm5 f H locs ls g  hl
      refine lv_lload hx hb dX8_letterOf_5 (lv_at hl 0 rfl) ?_
      refine lv_lconst (v := 0) hx hb dX8_letterOf_7 (by decide) ?_
      refine W.lcmp hx hb dX8_letterOf_8 ?_
      refine lv_if_le (tgt := 32) hx hb dX8_letterOf_9 (by decide) (fun c_2 => ?_) (fun c_2 => ?_)
      · refine lv_iload_n hx hb dX8_letterOf_32 rfl (lv_at hl 3 rfl) ?_
        have kb_0 : bd 0 0 (0 : Int32) := ⟨by decide, by decide⟩
        refine lv_if_lt (tgt := 41) hx hb dX8_letterOf_33 (by decide) (fun c_3 => ?_) (fun c_3 => ?_)
        · have fc_3 := lt_f c_3
          have b_4 : bd (-2147483648) (-1) x1_ := ltL fc_3 (bdT x1_) kb_0 (by decide)
          refine lv_iconst (v := (-1)) hx hb dX8_letterOf_41 (by decide) ?_
          subst hQ
          exact W.iret (v := (-1)) hx hb hr (fun t ht hW => ⟨⟨_, _, rfl, trivial, q3_of g hK ht hW⟩, g.2.2.1.F ht⟩) g.2.2.1.2.2 dX8_letterOf_42
        · have fc_3 := nlt_f c_3
          have b_5 : bd 0 2147483647 x1_ := leR fc_3 kb_0 (bdT x1_) (by decide)
          refine lv_iload_n hx hb dX8_letterOf_36 rfl (lv_at hl 3 rfl) ?_
          refine lv_iload_n hx hb dX8_letterOf_37 rfl (lv_at hl 1 rfl) ?_
          refine lv_icmp_lt (tgt := 43) hx hb dX8_letterOf_38 (by decide) (fun c_6 => ?_) (fun c_6 => ?_)
          · have fc_6 := lt_f c_6
            have b_7 : bd 0 11 x1_ := ltL fc_6 b_5 bv5_3 (by decide)
            have b_8 : bd 1 12 v5_3 := ltR fc_6 b_5 bv5_3 (by decide)
            refine lv_lload_n hx hb dX8_letterOf_43 rfl (lv_at hl 2 rfl) ?_
            refine lv_lstore (lv' := [(4, .long x0_), (3, .int v5_3), (0, .long x0_), (2, .int x1_)]) hx hb dX8_letterOf_44 hl (by decide) rfl (fun ls hl => ?_)
            refine lv_iload_n hx hb dX8_letterOf_46 rfl (lv_at hl 1 rfl) ?_
            refine lv_iconst (v := 1) hx hb dX8_letterOf_47 (by decide) ?_
            have kb_1 : bd 1 1 (1 : Int32) := ⟨by decide, by decide⟩
            refine lv_isub hx hb dX8_letterOf_48 ?_
            refine lv_topi (fun y_9 ey_9 => ?_)
            have ty_9 := sub_bd ey_9 b_8 kb_1 (by decide)
            have b_10 : bd 0 11 y_9 := sub_rg ty_9 b_8 kb_1 (by decide)
            refine lv_istore (lv' := [(6, .int y_9), (4, .long x0_), (3, .int v5_3), (0, .long x0_), (2, .int x1_)]) hx hb dX8_letterOf_49 hl (by decide) rfl (fun ls hl => ?_)
            have loop_11 : ∀ (n : Nat) (v51_6 : Int32) (v51_4 : Int64), bd 0 11 v51_6 → (v51_6.toInt - 0 < (n : Int)) → ∀ (f : Nat → va_E) (H : Heap) (locs : List Loc) (ls : Array Slot), G3 (dC, dI) L kd tys s f0 [] [] f H locs [] → lv_has ls 7 [(6, .int v51_6), (4, .long v51_4), (3, .int v5_3), (0, .long x0_), (2, .int x1_)] → W p l e ({ frames := 0, cells := 0, slots := 0, locals := 0 } : Room) s m [.long x0_, .int x1_].toArray below meth c H locs 0 0 Q (F0 m 51 ls []) := by
              intro n51
              induction n51 with
              | zero =>
                intro v51_6 v51_4 bv51_6  hm51 f H locs ls g  hl
                exact absurd hm51 (by have h9_v51_6 := bv51_6; unfold bd at h9_v51_6; omega)
              | succ n51 ih51 =>
                intro v51_6 v51_4 bv51_6  hm51 f H locs ls g  hl
                refine lv_iload hx hb dX8_letterOf_51 (lv_at hl 0 rfl) ?_
                refine lv_iload_n hx hb dX8_letterOf_53 rfl (lv_at hl 4 rfl) ?_
                refine lv_icmp_le (tgt := 71) hx hb dX8_letterOf_54 (by decide) (fun c_12 => ?_) (fun c_12 => ?_)
                · have fc_12 := le_f c_12
                  refine lv_lload hx hb dX8_letterOf_71 (lv_at hl 1 rfl) ?_
                  refine lv_ldc2 (v := 38) hx hb hown (hts _ (List.mem_cons_of_mem _ t_283)) dX8_letterOf_73 ?_
                  refine lv_lrem hx hb dX8_letterOf_76 (by decide) ?_
                  refine lv_topl (fun y_13 ey_13 => ?_)
                  refine lv_l2i hx hb dX8_letterOf_77 rfl ?_
                  refine lv_topi (fun y_14 ey_14 => ?_)
                  refine lv_istore (lv' := [(6, .int y_14), (4, .long v51_4), (3, .int v5_3), (0, .long x0_), (2, .int x1_)]) hx hb dX8_letterOf_78 hl (by decide) rfl (fun ls hl => ?_)
                  refine lv_iload hx hb dX8_letterOf_80 (lv_at hl 0 rfl) ?_
                  refine lv_bipush (v := 37) hx hb dX8_letterOf_82 (by decide) ?_
                  have kb_37 : bd 37 37 (37 : Int32) := ⟨by decide, by decide⟩
                  refine lv_icmp_ne (tgt := 90) hx hb dX8_letterOf_84 (by decide) (fun c_15 => ?_) (fun c_15 => ?_)
                  · have fc_15 := neq_f c_15
                    refine lv_iload hx hb dX8_letterOf_90 (lv_at hl 0 rfl) ?_
                    refine lv_bipush (v := 26) hx hb dX8_letterOf_92 (by decide) ?_
                    have kb_26 : bd 26 26 (26 : Int32) := ⟨by decide, by decide⟩
                    refine lv_icmp_le (tgt := 108) hx hb dX8_letterOf_94 (by decide) (fun c_16 => ?_) (fun c_16 => ?_)
                    · have fc_16 := le_f c_16
                      have b_17 : bd (-2147483648) 26 y_14 := leL fc_16 (bdT y_14) kb_26 (by decide)
                      refine lv_bipush (v := 97) hx hb dX8_letterOf_108 (by decide) ?_
                      refine lv_iload hx hb dX8_letterOf_110 (lv_at hl 0 rfl) ?_
                      have kb_97 : bd 97 97 (97 : Int32) := ⟨by decide, by decide⟩
                      refine lv_iadd hx hb dX8_letterOf_112 ?_
                      refine lv_topi (fun y_18 ey_18 => ?_)
                      have ty_18 := add_bd ey_18 kb_97 b_17 (by decide)
                      have b_19 : bd (-2147483551) 123 y_18 := add_rg ty_18 kb_97 b_17 (by decide)
                      refine lv_iconst (v := 1) hx hb dX8_letterOf_113 (by decide) ?_
                      refine lv_isub hx hb dX8_letterOf_114 ?_
                      refine lv_topi (fun y_20 ey_20 => ?_)
                      have ty_20 := sub_bd ey_20 b_19 kb_1 (by decide)
                      have b_21 : bd (-2147483552) 122 y_20 := sub_rg ty_20 b_19 kb_1 (by decide)
                      subst hQ
                      exact W.iret (v := y_20) hx hb hr (fun t ht hW => ⟨⟨_, _, rfl, trivial, q3_of g hK ht hW⟩, g.2.2.1.F ht⟩) g.2.2.1.2.2 dX8_letterOf_115
                    · have fc_16 := nle_f c_16
                      have b_22 : bd 27 2147483647 y_14 := ltR fc_16 kb_26 (bdT y_14) (by decide)
                      refine lv_bipush (v := 48) hx hb dX8_letterOf_97 (by decide) ?_
                      refine lv_iload hx hb dX8_letterOf_99 (lv_at hl 0 rfl) ?_
                      have kb_48 : bd 48 48 (48 : Int32) := ⟨by decide, by decide⟩
                      refine lv_iadd hx hb dX8_letterOf_101 ?_
                      refine lv_topi (fun y_23 ey_23 => ?_)
                      refine lv_bipush (v := 27) hx hb dX8_letterOf_102 (by decide) ?_
                      have kb_27 : bd 27 27 (27 : Int32) := ⟨by decide, by decide⟩
                      refine lv_isub hx hb dX8_letterOf_104 ?_
                      refine lv_topi (fun y_24 ey_24 => ?_)
                      refine lv_goto (tgt := 115) hx hb dX8_letterOf_105 (by decide) ?_
                      subst hQ
                      exact W.iret (v := y_24) hx hb hr (fun t ht hW => ⟨⟨_, _, rfl, trivial, q3_of g hK ht hW⟩, g.2.2.1.F ht⟩) g.2.2.1.2.2 dX8_letterOf_115
                  · have fc_15 := eq_f c_15
                    have b_25 : bd 37 37 y_14 := eqX fc_15 (bdT y_14) kb_37 (by decide)
                    refine lv_bipush (v := 95) hx hb dX8_letterOf_87 (by decide) ?_
                    subst hQ
                    exact W.iret (v := 95) hx hb hr (fun t ht hW => ⟨⟨_, _, rfl, trivial, q3_of g hK ht hW⟩, g.2.2.1.F ht⟩) g.2.2.1.2.2 dX8_letterOf_89
                · have fc_12 := nle_f c_12
                  have b_26 : bd 0 10 x1_ := ltL fc_12 b_7 bv51_6 (by decide)
                  have b_27 : bd 1 11 v51_6 := ltR fc_12 b_7 bv51_6 (by decide)
                  refine lv_lload hx hb dX8_letterOf_57 (lv_at hl 1 rfl) ?_
                  refine lv_ldc2 (v := 38) hx hb hown (hts _ (List.mem_cons_of_mem _ t_283)) dX8_letterOf_59 ?_
                  refine lv_ldiv hx hb dX8_letterOf_62 (by decide) ?_
                  refine lv_topl (fun y_28 ey_28 => ?_)
                  refine lv_lstore (lv' := [(4, .long y_28), (6, .int v51_6), (3, .int v5_3), (0, .long x0_), (2, .int x1_)]) hx hb dX8_letterOf_63 hl (by decide) rfl (fun ls hl => ?_)
                  have kb_m1 : bd (-1) (-1) ((-1) : Int32) := ⟨by decide, by decide⟩
                  obtain ⟨y_29, ey_29⟩ : ∃ z : Int32, z = v51_6 + (-1) := ⟨_, rfl⟩
                  refine lv_iinc (v := y_29) (lv' := [(6, .int y_29), (4, .long y_28), (3, .int v5_3), (0, .long x0_), (2, .int x1_)]) hx hb dX8_letterOf_65 hl (k := 1) rfl (by rw [ey_29]; rfl) (by decide) rfl (fun ls hl => ?_)
                  have ty_29 := add_bd ey_29 b_27 kb_m1 (by decide)
                  have b_30 : bd 0 10 y_29 := add_rg ty_29 b_27 kb_m1 (by decide)
                  refine lv_goto (tgt := 51) hx hb dX8_letterOf_68 (by decide) ?_
                  have hl9 := lv_sub hl [0, 1, 2, 3, 4] (by rfl : lv_pick [(6, .int y_29), (4, .long y_28), (3, .int v5_3), (0, .long x0_), (2, .int x1_)] [0, 1, 2, 3, 4] = [(6, .int y_29), (4, .long y_28), (3, .int v5_3), (0, .long x0_), (2, .int x1_)])
                  have g9 := g.sub (fx' := []) [] rfl
                  exact ih51  y_29 y_28 (bd_sub b_30 (by decide)) (by have h9_0 := b_30; unfold bd at h9_0; have h9_1 := bv51_6; unfold bd at h9_1; have h9_2 := kb_0; unfold bd at h9_2; have h9_3 := kb_1; unfold bd at h9_3; have h9_4 := kb_m1; unfold bd at h9_4; omega) _ _ _ _ g9  hl9
            have hl9 := lv_sub hl [0, 1, 2, 3, 4] (by rfl : lv_pick [(6, .int y_9), (4, .long x0_), (3, .int v5_3), (0, .long x0_), (2, .int x1_)] [0, 1, 2, 3, 4] = [(6, .int y_9), (4, .long x0_), (3, .int v5_3), (0, .long x0_), (2, .int x1_)])
            have g9 := g.sub (fx' := []) [] rfl
            exact loop_11 (25) y_9 x0_ b_10 (by have h9_0 := b_10; unfold bd at h9_0; have h9_1 := kb_0; unfold bd at h9_1; have h9_2 := kb_1; unfold bd at h9_2; omega) _ _ _ _ g9  hl9
          · have fc_6 := nlt_f c_6
            refine lv_iconst (v := (-1)) hx hb dX8_letterOf_41 (by decide) ?_
            subst hQ
            exact W.iret (v := (-1)) hx hb hr (fun t ht hW => ⟨⟨_, _, rfl, trivial, q3_of g hK ht hW⟩, g.2.2.1.F ht⟩) g.2.2.1.2.2 dX8_letterOf_42
      · refine lv_iload_n hx hb dX8_letterOf_12 rfl (lv_at hl 1 rfl) ?_
        refine lv_bipush (v := 12) hx hb dX8_letterOf_13 (by decide) ?_
        have kb_12 : bd 12 12 (12 : Int32) := ⟨by decide, by decide⟩
        refine lv_icmp_ge (tgt := 32) hx hb dX8_letterOf_15 (by decide) (fun c_31 => ?_) (fun c_31 => ?_)
        · have fc_31 := le_f c_31
          have b_32 : bd 12 12 v5_3 := leR fc_31 kb_12 bv5_3 (by decide)
          refine lv_iload_n hx hb dX8_letterOf_32 rfl (lv_at hl 3 rfl) ?_
          have kb_0 : bd 0 0 (0 : Int32) := ⟨by decide, by decide⟩
          refine lv_if_lt (tgt := 41) hx hb dX8_letterOf_33 (by decide) (fun c_33 => ?_) (fun c_33 => ?_)
          · have fc_33 := lt_f c_33
            have b_34 : bd (-2147483648) (-1) x1_ := ltL fc_33 (bdT x1_) kb_0 (by decide)
            refine lv_iconst (v := (-1)) hx hb dX8_letterOf_41 (by decide) ?_
            subst hQ
            exact W.iret (v := (-1)) hx hb hr (fun t ht hW => ⟨⟨_, _, rfl, trivial, q3_of g hK ht hW⟩, g.2.2.1.F ht⟩) g.2.2.1.2.2 dX8_letterOf_42
          · have fc_33 := nlt_f c_33
            have b_35 : bd 0 2147483647 x1_ := leR fc_33 kb_0 (bdT x1_) (by decide)
            refine lv_iload_n hx hb dX8_letterOf_36 rfl (lv_at hl 3 rfl) ?_
            refine lv_iload_n hx hb dX8_letterOf_37 rfl (lv_at hl 1 rfl) ?_
            refine lv_icmp_lt (tgt := 43) hx hb dX8_letterOf_38 (by decide) (fun c_36 => ?_) (fun c_36 => ?_)
            · have fc_36 := lt_f c_36
              have b_37 : bd 0 11 x1_ := ltL fc_36 b_35 b_32 (by decide)
              refine lv_lload_n hx hb dX8_letterOf_43 rfl (lv_at hl 2 rfl) ?_
              refine lv_lstore (lv' := [(4, .long x0_), (3, .int v5_3), (0, .long x0_), (2, .int x1_)]) hx hb dX8_letterOf_44 hl (by decide) rfl (fun ls hl => ?_)
              refine lv_iload_n hx hb dX8_letterOf_46 rfl (lv_at hl 1 rfl) ?_
              refine lv_iconst (v := 1) hx hb dX8_letterOf_47 (by decide) ?_
              have kb_1 : bd 1 1 (1 : Int32) := ⟨by decide, by decide⟩
              refine lv_isub hx hb dX8_letterOf_48 ?_
              refine lv_topi (fun y_38 ey_38 => ?_)
              have ty_38 := sub_bd ey_38 b_32 kb_1 (by decide)
              have b_39 : bd 11 11 y_38 := sub_rg ty_38 b_32 kb_1 (by decide)
              refine lv_istore (lv' := [(6, .int y_38), (4, .long x0_), (3, .int v5_3), (0, .long x0_), (2, .int x1_)]) hx hb dX8_letterOf_49 hl (by decide) rfl (fun ls hl => ?_)
              have loop_40 : ∀ (n : Nat) (v51_6 : Int32) (v51_4 : Int64), bd 0 11 v51_6 → (v51_6.toInt - 0 < (n : Int)) → ∀ (f : Nat → va_E) (H : Heap) (locs : List Loc) (ls : Array Slot), G3 (dC, dI) L kd tys s f0 [] [] f H locs [] → lv_has ls 7 [(6, .int v51_6), (4, .long v51_4), (3, .int v5_3), (0, .long x0_), (2, .int x1_)] → W p l e ({ frames := 0, cells := 0, slots := 0, locals := 0 } : Room) s m [.long x0_, .int x1_].toArray below meth c H locs 0 0 Q (F0 m 51 ls []) := by
                intro n51
                induction n51 with
                | zero =>
                  intro v51_6 v51_4 bv51_6  hm51 f H locs ls g  hl
                  exact absurd hm51 (by have h9_v51_6 := bv51_6; unfold bd at h9_v51_6; omega)
                | succ n51 ih51 =>
                  intro v51_6 v51_4 bv51_6  hm51 f H locs ls g  hl
                  refine lv_iload hx hb dX8_letterOf_51 (lv_at hl 0 rfl) ?_
                  refine lv_iload_n hx hb dX8_letterOf_53 rfl (lv_at hl 4 rfl) ?_
                  refine lv_icmp_le (tgt := 71) hx hb dX8_letterOf_54 (by decide) (fun c_41 => ?_) (fun c_41 => ?_)
                  · have fc_41 := le_f c_41
                    refine lv_lload hx hb dX8_letterOf_71 (lv_at hl 1 rfl) ?_
                    refine lv_ldc2 (v := 38) hx hb hown (hts _ (List.mem_cons_of_mem _ t_283)) dX8_letterOf_73 ?_
                    refine lv_lrem hx hb dX8_letterOf_76 (by decide) ?_
                    refine lv_topl (fun y_42 ey_42 => ?_)
                    refine lv_l2i hx hb dX8_letterOf_77 rfl ?_
                    refine lv_topi (fun y_43 ey_43 => ?_)
                    refine lv_istore (lv' := [(6, .int y_43), (4, .long v51_4), (3, .int v5_3), (0, .long x0_), (2, .int x1_)]) hx hb dX8_letterOf_78 hl (by decide) rfl (fun ls hl => ?_)
                    refine lv_iload hx hb dX8_letterOf_80 (lv_at hl 0 rfl) ?_
                    refine lv_bipush (v := 37) hx hb dX8_letterOf_82 (by decide) ?_
                    have kb_37 : bd 37 37 (37 : Int32) := ⟨by decide, by decide⟩
                    refine lv_icmp_ne (tgt := 90) hx hb dX8_letterOf_84 (by decide) (fun c_44 => ?_) (fun c_44 => ?_)
                    · have fc_44 := neq_f c_44
                      refine lv_iload hx hb dX8_letterOf_90 (lv_at hl 0 rfl) ?_
                      refine lv_bipush (v := 26) hx hb dX8_letterOf_92 (by decide) ?_
                      have kb_26 : bd 26 26 (26 : Int32) := ⟨by decide, by decide⟩
                      refine lv_icmp_le (tgt := 108) hx hb dX8_letterOf_94 (by decide) (fun c_45 => ?_) (fun c_45 => ?_)
                      · have fc_45 := le_f c_45
                        have b_46 : bd (-2147483648) 26 y_43 := leL fc_45 (bdT y_43) kb_26 (by decide)
                        refine lv_bipush (v := 97) hx hb dX8_letterOf_108 (by decide) ?_
                        refine lv_iload hx hb dX8_letterOf_110 (lv_at hl 0 rfl) ?_
                        have kb_97 : bd 97 97 (97 : Int32) := ⟨by decide, by decide⟩
                        refine lv_iadd hx hb dX8_letterOf_112 ?_
                        refine lv_topi (fun y_47 ey_47 => ?_)
                        have ty_47 := add_bd ey_47 kb_97 b_46 (by decide)
                        have b_48 : bd (-2147483551) 123 y_47 := add_rg ty_47 kb_97 b_46 (by decide)
                        refine lv_iconst (v := 1) hx hb dX8_letterOf_113 (by decide) ?_
                        refine lv_isub hx hb dX8_letterOf_114 ?_
                        refine lv_topi (fun y_49 ey_49 => ?_)
                        have ty_49 := sub_bd ey_49 b_48 kb_1 (by decide)
                        have b_50 : bd (-2147483552) 122 y_49 := sub_rg ty_49 b_48 kb_1 (by decide)
                        subst hQ
                        exact W.iret (v := y_49) hx hb hr (fun t ht hW => ⟨⟨_, _, rfl, trivial, q3_of g hK ht hW⟩, g.2.2.1.F ht⟩) g.2.2.1.2.2 dX8_letterOf_115
                      · have fc_45 := nle_f c_45
                        have b_51 : bd 27 2147483647 y_43 := ltR fc_45 kb_26 (bdT y_43) (by decide)
                        refine lv_bipush (v := 48) hx hb dX8_letterOf_97 (by decide) ?_
                        refine lv_iload hx hb dX8_letterOf_99 (lv_at hl 0 rfl) ?_
                        have kb_48 : bd 48 48 (48 : Int32) := ⟨by decide, by decide⟩
                        refine lv_iadd hx hb dX8_letterOf_101 ?_
                        refine lv_topi (fun y_52 ey_52 => ?_)
                        refine lv_bipush (v := 27) hx hb dX8_letterOf_102 (by decide) ?_
                        have kb_27 : bd 27 27 (27 : Int32) := ⟨by decide, by decide⟩
                        refine lv_isub hx hb dX8_letterOf_104 ?_
                        refine lv_topi (fun y_53 ey_53 => ?_)
                        refine lv_goto (tgt := 115) hx hb dX8_letterOf_105 (by decide) ?_
                        subst hQ
                        exact W.iret (v := y_53) hx hb hr (fun t ht hW => ⟨⟨_, _, rfl, trivial, q3_of g hK ht hW⟩, g.2.2.1.F ht⟩) g.2.2.1.2.2 dX8_letterOf_115
                    · have fc_44 := eq_f c_44
                      have b_54 : bd 37 37 y_43 := eqX fc_44 (bdT y_43) kb_37 (by decide)
                      refine lv_bipush (v := 95) hx hb dX8_letterOf_87 (by decide) ?_
                      subst hQ
                      exact W.iret (v := 95) hx hb hr (fun t ht hW => ⟨⟨_, _, rfl, trivial, q3_of g hK ht hW⟩, g.2.2.1.F ht⟩) g.2.2.1.2.2 dX8_letterOf_89
                  · have fc_41 := nle_f c_41
                    have b_55 : bd 0 10 x1_ := ltL fc_41 b_37 bv51_6 (by decide)
                    have b_56 : bd 1 11 v51_6 := ltR fc_41 b_37 bv51_6 (by decide)
                    refine lv_lload hx hb dX8_letterOf_57 (lv_at hl 1 rfl) ?_
                    refine lv_ldc2 (v := 38) hx hb hown (hts _ (List.mem_cons_of_mem _ t_283)) dX8_letterOf_59 ?_
                    refine lv_ldiv hx hb dX8_letterOf_62 (by decide) ?_
                    refine lv_topl (fun y_57 ey_57 => ?_)
                    refine lv_lstore (lv' := [(4, .long y_57), (6, .int v51_6), (3, .int v5_3), (0, .long x0_), (2, .int x1_)]) hx hb dX8_letterOf_63 hl (by decide) rfl (fun ls hl => ?_)
                    have kb_m1 : bd (-1) (-1) ((-1) : Int32) := ⟨by decide, by decide⟩
                    obtain ⟨y_58, ey_58⟩ : ∃ z : Int32, z = v51_6 + (-1) := ⟨_, rfl⟩
                    refine lv_iinc (v := y_58) (lv' := [(6, .int y_58), (4, .long y_57), (3, .int v5_3), (0, .long x0_), (2, .int x1_)]) hx hb dX8_letterOf_65 hl (k := 1) rfl (by rw [ey_58]; rfl) (by decide) rfl (fun ls hl => ?_)
                    have ty_58 := add_bd ey_58 b_56 kb_m1 (by decide)
                    have b_59 : bd 0 10 y_58 := add_rg ty_58 b_56 kb_m1 (by decide)
                    refine lv_goto (tgt := 51) hx hb dX8_letterOf_68 (by decide) ?_
                    have hl9 := lv_sub hl [0, 1, 2, 3, 4] (by rfl : lv_pick [(6, .int y_58), (4, .long y_57), (3, .int v5_3), (0, .long x0_), (2, .int x1_)] [0, 1, 2, 3, 4] = [(6, .int y_58), (4, .long y_57), (3, .int v5_3), (0, .long x0_), (2, .int x1_)])
                    have g9 := g.sub (fx' := []) [] rfl
                    exact ih51  y_58 y_57 (bd_sub b_59 (by decide)) (by have h9_0 := b_59; unfold bd at h9_0; have h9_1 := bv51_6; unfold bd at h9_1; have h9_2 := kb_0; unfold bd at h9_2; have h9_3 := kb_1; unfold bd at h9_3; have h9_4 := kb_12; unfold bd at h9_4; have h9_5 := kb_m1; unfold bd at h9_5; omega) _ _ _ _ g9  hl9
              have hl9 := lv_sub hl [0, 1, 2, 3, 4] (by rfl : lv_pick [(6, .int y_38), (4, .long x0_), (3, .int v5_3), (0, .long x0_), (2, .int x1_)] [0, 1, 2, 3, 4] = [(6, .int y_38), (4, .long x0_), (3, .int v5_3), (0, .long x0_), (2, .int x1_)])
              have g9 := g.sub (fx' := []) [] rfl
              exact loop_40 (25) y_38 x0_ (bd_sub b_39 (by decide)) (by have h9_0 := b_39; unfold bd at h9_0; have h9_1 := kb_0; unfold bd at h9_1; have h9_2 := kb_1; unfold bd at h9_2; have h9_3 := kb_12; unfold bd at h9_3; omega) _ _ _ _ g9  hl9
            · have fc_36 := nlt_f c_36
              have b_60 : bd 12 2147483647 x1_ := leR fc_36 b_32 b_35 (by decide)
              refine lv_iconst (v := (-1)) hx hb dX8_letterOf_41 (by decide) ?_
              subst hQ
              exact W.iret (v := (-1)) hx hb hr (fun t ht hW => ⟨⟨_, _, rfl, trivial, q3_of g hK ht hW⟩, g.2.2.1.F ht⟩) g.2.2.1.2.2 dX8_letterOf_42
        · have fc_31 := nle_f c_31
          have b_61 : bd 0 11 v5_3 := ltL fc_31 bv5_3 kb_12 (by decide)
          have kb_1 : bd 1 1 (1 : Int32) := ⟨by decide, by decide⟩
          obtain ⟨y_62, ey_62⟩ : ∃ z : Int32, z = v5_3 + 1 := ⟨_, rfl⟩
          refine lv_iinc (v := y_62) (lv' := [(3, .int y_62), (4, .long v5_4), (0, .long x0_), (2, .int x1_)]) hx hb dX8_letterOf_18 hl (k := 1) rfl (by rw [ey_62]; rfl) (by decide) rfl (fun ls hl => ?_)
          have ty_62 := add_bd ey_62 b_61 kb_1 (by decide)
          have b_63 : bd 1 12 y_62 := add_rg ty_62 b_61 kb_1 (by decide)
          refine lv_lload hx hb dX8_letterOf_21 (lv_at hl 1 rfl) ?_
          refine lv_ldc2 (v := 38) hx hb hown (hts _ (List.mem_cons_of_mem _ t_283)) dX8_letterOf_23 ?_
          refine lv_ldiv hx hb dX8_letterOf_26 (by decide) ?_
          refine lv_topl (fun y_64 ey_64 => ?_)
          refine lv_lstore (lv' := [(4, .long y_64), (3, .int y_62), (0, .long x0_), (2, .int x1_)]) hx hb dX8_letterOf_27 hl (by decide) rfl (fun ls hl => ?_)
          refine lv_goto (tgt := 5) hx hb dX8_letterOf_29 (by decide) ?_
          have hl9 := lv_sub hl [0, 1, 2, 3] (by rfl : lv_pick [(4, .long y_64), (3, .int y_62), (0, .long x0_), (2, .int x1_)] [0, 1, 2, 3] = [(4, .long y_64), (3, .int y_62), (0, .long x0_), (2, .int x1_)])
          have g9 := g.sub (fx' := []) [] rfl
          exact ih5  y_64 y_62 (bd_sub b_63 (by decide)) (by have h9_0 := b_63; unfold bd at h9_0; have h9_1 := bv5_3; unfold bd at h9_1; have h9_2 := kb_1; unfold bd at h9_2; have h9_3 := kb_12; unfold bd at h9_3; omega) _ _ _ _ g9  hl9
  have kb_0 : bd 0 0 (0 : Int32) := ⟨by decide, by decide⟩
  have hl9 := lv_sub hl [0, 1, 2, 3] (by rfl : lv_pick [(4, .long x0_), (3, .int 0), (0, .long x0_), (2, .int x1_)] [0, 1, 2, 3] = [(4, .long x0_), (3, .int 0), (0, .long x0_), (2, .int x1_)])
  have g9 := g.sub (fx' := []) [] rfl
  exact loop_1 (27) x0_ 0 (bd_sub kb_0 (by decide)) (by have h9_0 := kb_0; unfold bd at h9_0; omega) _ _ _ _ g9  hl9
set_option maxHeartbeats 4000000 in
set_option maxRecDepth 100000 in
theorem r_X8_byteAt (l : Launch) (dC : Nat → ClassId) (dI : Nat → Nat → Nat) (L : List Nat) (kd : Nat → Nat) (tys : List (ClassId × FieldType)) (f0 : Nat → va_E) (sz : Nat) (hWT : WT L kd tys f0) (a0_ : Nat) (ma0_ : a0_ ∈ L) (ka0_ : kd a0_ = 8) (x1_ : Int32) (q0_ : Nat) (mq0_ : q0_ ∈ L) (kq0_ : kd q0_ = 104) (hfx : Fs L kd f0 [(8, 4, a0_, .ref q0_)]) : Met l yX8_byteAt (.code yX8_byteAt cX8_byteAt 2 (some .int) :: lw_g) ({ frames := 0, cells := 0, slots := 0, locals := 0 }) (va_Pc [.ref a0_, .int x1_] (P3 (dC, dI) L tys f0 sz)) (va_Qi (fun (r : Int32) (f : Nat → va_E) => (bd 0 255 r ∧ True)) (Q3 (dC, dI) L kd tys [] [] f0 sz) (pA L sz)) 0 0 (pA L sz) := by
  refine Met.ofW (cc := cX8_byteAt) (maxL := 2) (ret := (some .int)) (by decide) rfl ?_
  intro p e s m args below meth c s₁ B hml hv
  obtain ⟨rfl, hsz, hP, hK, hD0⟩ := hv
  have hx := B.exec
  have hb := B.bytes
  have hr := B.returns
  have hts := atoms_spec (ws := (.code yX8_byteAt cX8_byteAt 2 (some .int) :: lw_g)) B.pre
  have hown : s.vm.findClass RX8 = some m.cls := findClass_of_methodNamed B.named
  have hlocks := B.notSynchronized
  subst hsz
  have g : G3 (dC, dI) L kd tys s f0 [] [] f0 s.heap [] [(8, 4, a0_, .ref q0_)] := G3.start hP hD0 hWT hfx
  have hl := lv_entry ([.ref a0_, .int x1_]) (n := 2) (Nat.le_of_ble_eq_true rfl)
  rw [lg_entry_eq]
  generalize (lg_sl ([.ref a0_, .int x1_]) ++ List.replicate (2 - (lg_sl ([.ref a0_, .int x1_])).length) Slot.unset).toArray = ls at hl ⊢
  have hl : lv_has ls 2 [(0, .ref a0_), (1, .int x1_)] := hl
  refine W_q (fun Q hQ => ?_)
  refine lv_iload_n hx hb dX8_byteAt_0 rfl (lv_at hl 1 rfl) ?_
  have kb_0 : bd 0 0 (0 : Int32) := ⟨by decide, by decide⟩
  refine lv_if_lt (tgt := 25) hx hb dX8_byteAt_1 (by decide) (fun c_1 => ?_) (fun c_1 => ?_)
  · have fc_1 := lt_f c_1
    have b_2 : bd (-2147483648) (-1) x1_ := ltL fc_1 (bdT x1_) kb_0 (by decide)
    refine lv_iconst (v := 0) hx hb dX8_byteAt_25 (by decide) ?_
    subst hQ
    exact W.iret (v := 0) hx hb hr (fun t ht hW => ⟨⟨_, _, rfl, ⟨(bd_sub kb_0 (by decide)), trivial⟩, q3_of g hK ht hW⟩, g.2.2.1.F ht⟩) g.2.2.1.2.2 dX8_byteAt_26
  · have fc_1 := nlt_f c_1
    have b_3 : bd 0 2147483647 x1_ := leR fc_1 kb_0 (bdT x1_) (by decide)
    refine lv_iload_n hx hb dX8_byteAt_4 rfl (lv_at hl 1 rfl) ?_
    refine lv_aload_n hx hb dX8_byteAt_5 rfl (lv_at hl 0 rfl) ?_
    refine g_geti (C := RX8) (T := TX8) (N := 10) hx hb hts (mc_ inX8) hown hK g ma0_ ka0_ (by decide) rfl 5 (by decide) rfl (hts _ (List.mem_cons_of_mem _ t_290)) (fun _ h9 => h9) rfl dX8_byteAt_6 (fun x_4 bx_4 g => ?_)
    refine lv_icmp_ge (tgt := 25) hx hb dX8_byteAt_9 (by decide) (fun c_5 => ?_) (fun c_5 => ?_)
    · have fc_5 := le_f c_5
      refine lv_iconst (v := 0) hx hb dX8_byteAt_25 (by decide) ?_
      subst hQ
      exact W.iret (v := 0) hx hb hr (fun t ht hW => ⟨⟨_, _, rfl, ⟨(bd_sub kb_0 (by decide)), trivial⟩, q3_of g hK ht hW⟩, g.2.2.1.F ht⟩) g.2.2.1.2.2 dX8_byteAt_26
    · have fc_5 := nle_f c_5
      have b_6 : bd 0 3999 x1_ := ltL fc_5 b_3 bx_4 (by decide)
      have b_7 : bd 1 4000 x_4 := ltR fc_5 b_3 bx_4 (by decide)
      refine lv_aload_n hx hb dX8_byteAt_12 rfl (lv_at hl 0 rfl) ?_
      refine g_getk (C := RX8) (T := TX8) (N := 10) hx hb hts (mc_ inX8) hown hK g rfl 4 (by decide) rfl (hts _ (List.mem_cons_of_mem _ t_289)) (fun _ h9 => h9) 1 rfl dX8_byteAt_13 ?_
      refine lv_iload_n hx hb dX8_byteAt_16 rfl (lv_at hl 1 rfl) ?_
      refine g_bald hx hb hK g mq0_ kq0_ (by decide) rfl (in_bd b_6 (by decide)) dX8_byteAt_17 (fun x_8 bx_8 => ?_)
      refine lv_sipush (v := 255) hx hb dX8_byteAt_18 (by decide) ?_
      have kb_255 : bd 255 255 (255 : Int32) := ⟨by decide, by decide⟩
      refine lv_iand hx hb dX8_byteAt_21 ?_
      refine lv_topi (fun y_9 ey_9 => ?_)
      have b_10 : bd 0 255 y_9 := and_rg ey_9 bx_8 kb_255 (by decide)
      refine lv_goto (tgt := 26) hx hb dX8_byteAt_22 (by decide) ?_
      subst hQ
      exact W.iret (v := y_9) hx hb hr (fun t ht hW => ⟨⟨_, _, rfl, ⟨b_10, trivial⟩, q3_of g hK ht hW⟩, g.2.2.1.F ht⟩) g.2.2.1.2.2 dX8_byteAt_26
set_option maxHeartbeats 4000000 in
set_option maxRecDepth 100000 in
theorem r_X8_behindBlanks (l : Launch) (dC : Nat → ClassId) (dI : Nat → Nat → Nat) (L : List Nat) (kd : Nat → Nat) (tys : List (ClassId × FieldType)) (f0 : Nat → va_E) (sz : Nat) (hWT : WT L kd tys f0) (a0_ : Nat) (ma0_ : a0_ ∈ L) (ka0_ : kd a0_ = 8) (x1_ : Int32) (q0_ : Nat) (mq0_ : q0_ ∈ L) (kq0_ : kd q0_ = 104) (hfx : Fs L kd f0 [(8, 4, a0_, .ref q0_)]) : Met l yX8_behindBlanks (.code yX8_behindBlanks cX8_behindBlanks 3 (some .int) :: lw_g) ({ frames := 1, cells := 0, slots := 0, locals := 21 }) (va_Pc [.ref a0_, .int x1_] (P3 (dC, dI) L tys f0 sz)) (va_Qi (fun (r : Int32) (f : Nat → va_E) => (True)) (Q3 (dC, dI) L kd tys [] [] f0 sz) (pA L sz)) 0 0 (pA L sz) := by
  refine Met.ofW (cc := cX8_behindBlanks) (maxL := 3) (ret := (some .int)) (by decide) rfl ?_
  intro p e s m args below meth c s₁ B hml hv
  obtain ⟨rfl, hsz, hP, hK, hD0⟩ := hv
  have hx := B.exec
  have hb := B.bytes
  have hr := B.returns
  have hts := atoms_spec (ws := (.code yX8_behindBlanks cX8_behindBlanks 3 (some .int) :: lw_g)) B.pre
  have hown : s.vm.findClass RX8 = some m.cls := findClass_of_methodNamed B.named
  have hlocks := B.notSynchronized
  subst hsz
  have g : G3 (dC, dI) L kd tys s f0 [] [] f0 s.heap [] [(8, 4, a0_, .ref q0_)] := G3.start hP hD0 hWT hfx
  have hl := lv_entry ([.ref a0_, .int x1_]) (n := 3) (Nat.le_of_ble_eq_true rfl)
  rw [lg_entry_eq]
  generalize (lg_sl ([.ref a0_, .int x1_]) ++ List.replicate (3 - (lg_sl ([.ref a0_, .int x1_])).length) Slot.unset).toArray = ls at hl ⊢
  have hl : lv_has ls 3 [(0, .ref a0_), (1, .int x1_)] := hl
  refine W_q (fun Q hQ => ?_)
  refine lv_iload_n hx hb dX8_behindBlanks_0 rfl (lv_at hl 1 rfl) ?_
  refine lv_istore_n (lv' := [(2, .int x1_), (0, .ref a0_), (1, .int x1_)]) hx hb dX8_behindBlanks_1 rfl hl (by decide) rfl (fun ls hl => ?_)
  have loop_1 : ∀ (n : Nat) (v2_2 : Int32), (2147483647 - v2_2.toInt < (n : Int)) → ∀ (f : Nat → va_E) (H : Heap) (locs : List Loc) (ls : Array Slot), G3 (dC, dI) L kd tys s f0 [] [] f H locs [(8, 4, a0_, .ref q0_)] → lv_has ls 3 [(2, .int v2_2), (0, .ref a0_), (1, .int x1_)] → W p l e ({ frames := 1, cells := 0, slots := 0, locals := 21 } : Room) s m [.ref a0_, .int x1_].toArray below meth c H locs 0 0 Q (F0 m 2 ls []) := by
    intro n2
    induction n2 with
    | zero =>
      intro v2_2  hm2 f H locs ls g  hl
      exact absurd hm2 (by have h9_v2_2 := bdT v2_2; unfold bd at h9_v2_2; omega)
    | succ n2 ih2 =>
      intro v2_2  hm2 f H locs ls g  hl
      refine lv_iload_n hx hb dX8_behindBlanks_2 rfl (lv_at hl 0 rfl) ?_
      refine lv_aload_n hx hb dX8_behindBlanks_3 rfl (lv_at hl 1 rfl) ?_
      refine g_geti (C := RX8) (T := TX8) (N := 10) hx hb hts (mc_ inX8) hown hK g ma0_ ka0_ (by decide) rfl 5 (by decide) rfl (hts _ (List.mem_cons_of_mem _ t_290)) (fun _ h9 => h9) rfl dX8_behindBlanks_4 (fun x_2 bx_2 g => ?_)
      refine lv_icmp_ge (tgt := 36) hx hb dX8_behindBlanks_7 (by decide) (fun c_3 => ?_) (fun c_3 => ?_)
      · have fc_3 := le_f c_3
        have b_4 : bd 0 2147483647 v2_2 := leR fc_3 bx_2 (bdT v2_2) (by decide)
        refine lv_iload_n hx hb dX8_behindBlanks_36 rfl (lv_at hl 0 rfl) ?_
        subst hQ
        exact W.iret (v := v2_2) hx hb hr (fun t ht hW => ⟨⟨_, _, rfl, trivial, q3_of g hK ht hW⟩, g.2.2.1.F ht⟩) g.2.2.1.2.2 dX8_behindBlanks_37
      · have fc_3 := nle_f c_3
        have b_5 : bd (-2147483648) 3999 v2_2 := ltL fc_3 (bdT v2_2) bx_2 (by decide)
        refine lv_aload_n hx hb dX8_behindBlanks_10 rfl (lv_at hl 1 rfl) ?_
        refine lv_iload_n hx hb dX8_behindBlanks_11 rfl (lv_at hl 0 rfl) ?_
        refine g_calli (va_runV (As := [.int v2_2]) (rest := []) ⟨hx, hb, hml, hown, hts⟩ (r_X8_byteAt l dC dI L kd tys f H.size g.2.2.2.1 a0_ ma0_ ka0_ v2_2 q0_ mq0_ kq0_ (g.fcts [1] rfl)) (cwV 1 hts (gV_ t_1004 t_1006 t_3 t_184 t_1007) rfl rfl rfl (by decide +kernel) ⟨(Nat.le_of_ble_eq_true rfl), (Nat.le_of_ble_eq_true rfl)⟩) (pre3V g hK ma0_ ka0_ (by decide) (q := (RX8, TX8, 10)) rfl) rfl rfl hl.1 rfl (lv_room (Nat.le_of_ble_eq_true rfl)) dX8_behindBlanks_12 ⟨(Nat.le_of_ble_eq_true rfl), (Nat.le_of_ble_eq_true rfl)⟩) g hK (by decide) (by decide) (fx' := [(8, 5, a0_, .int x_2), (8, 4, a0_, .ref q0_)]) rfl (fun r_6 fr_6 H locs hp hMr_6 g => ?_)
        obtain ⟨h_7, -⟩ := hp
        refine lv_bipush (v := 32) hx hb dX8_behindBlanks_15 (by decide) ?_
        have kb_32 : bd 32 32 (32 : Int32) := ⟨by decide, by decide⟩
        refine lv_icmp_eq (tgt := 30) hx hb dX8_behindBlanks_17 (by decide) (fun c_8 => ?_) (fun c_8 => ?_)
        · have fc_8 := eq_f c_8
          have b_9 : bd 32 32 r_6 := eqX fc_8 h_7 kb_32 (by decide)
          have kb_1 : bd 1 1 (1 : Int32) := ⟨by decide, by decide⟩
          obtain ⟨y_10, ey_10⟩ : ∃ z : Int32, z = v2_2 + 1 := ⟨_, rfl⟩
          refine lv_iinc (v := y_10) (lv' := [(2, .int y_10), (0, .ref a0_), (1, .int x1_)]) hx hb dX8_behindBlanks_30 hl (k := 0) rfl (by rw [ey_10]; rfl) (by decide) rfl (fun ls hl => ?_)
          have ty_10 := add_bd ey_10 b_5 kb_1 (by decide)
          have b_11 : bd (-2147483647) 4000 y_10 := add_rg ty_10 b_5 kb_1 (by decide)
          refine lv_goto (tgt := 2) hx hb dX8_behindBlanks_33 (by decide) ?_
          have hl9 := lv_sub hl [0, 1, 2] (by rfl : lv_pick [(2, .int y_10), (0, .ref a0_), (1, .int x1_)] [0, 1, 2] = [(2, .int y_10), (0, .ref a0_), (1, .int x1_)])
          have g9 := g.sub (fx' := [(8, 4, a0_, .ref q0_)]) [1] rfl
          exact ih2  y_10  (by have h9_0 := b_11; unfold bd at h9_0; have h9_1 := bdT v2_2; unfold bd at h9_1; have h9_2 := kb_1; unfold bd at h9_2; have h9_3 := kb_32; unfold bd at h9_3; omega) _ _ _ _ g9  hl9
        · have fc_8 := neq_f c_8
          refine lv_aload_n hx hb dX8_behindBlanks_20 rfl (lv_at hl 1 rfl) ?_
          refine lv_iload_n hx hb dX8_behindBlanks_21 rfl (lv_at hl 0 rfl) ?_
          refine g_calli (va_runV (As := [.int v2_2]) (rest := []) ⟨hx, hb, hml, hown, hts⟩ (r_X8_byteAt l dC dI L kd tys fr_6 H.size g.2.2.2.1 a0_ ma0_ ka0_ v2_2 q0_ mq0_ kq0_ (g.fcts [1] rfl)) (cwV 1 hts (gV_ t_1004 t_1006 t_3 t_184 t_1007) rfl rfl rfl (by decide +kernel) ⟨(Nat.le_of_ble_eq_true rfl), (Nat.le_of_ble_eq_true rfl)⟩) (pre3V g hK ma0_ ka0_ (by decide) (q := (RX8, TX8, 10)) rfl) rfl rfl hl.1 rfl (lv_room (Nat.le_of_ble_eq_true rfl)) dX8_behindBlanks_22 ⟨(Nat.le_of_ble_eq_true rfl), (Nat.le_of_ble_eq_true rfl)⟩) g hK (by decide) (by decide) (fx' := [(8, 5, a0_, .int x_2), (8, 4, a0_, .ref q0_)]) rfl (fun r_12 fr_12 H locs hp hMr_12 g => ?_)
          obtain ⟨h_13, -⟩ := hp
          refine lv_bipush (v := 10) hx hb dX8_behindBlanks_25 (by decide) ?_
          have kb_10 : bd 10 10 (10 : Int32) := ⟨by decide, by decide⟩
          refine lv_icmp_ne (tgt := 36) hx hb dX8_behindBlanks_27 (by decide) (fun c_14 => ?_) (fun c_14 => ?_)
          · have fc_14 := neq_f c_14
            refine lv_iload_n hx hb dX8_behindBlanks_36 rfl (lv_at hl 0 rfl) ?_
            subst hQ
            exact W.iret (v := v2_2) hx hb hr (fun t ht hW => ⟨⟨_, _, rfl, trivial, q3_of g hK ht hW⟩, g.2.2.1.F ht⟩) g.2.2.1.2.2 dX8_behindBlanks_37
          · have fc_14 := eq_f c_14
            have b_15 : bd 10 10 r_12 := eqX fc_14 h_13 kb_10 (by decide)
            have kb_1 : bd 1 1 (1 : Int32) := ⟨by decide, by decide⟩
            obtain ⟨y_16, ey_16⟩ : ∃ z : Int32, z = v2_2 + 1 := ⟨_, rfl⟩
            refine lv_iinc (v := y_16) (lv' := [(2, .int y_16), (0, .ref a0_), (1, .int x1_)]) hx hb dX8_behindBlanks_30 hl (k := 0) rfl (by rw [ey_16]; rfl) (by decide) rfl (fun ls hl => ?_)
            have ty_16 := add_bd ey_16 b_5 kb_1 (by decide)
            have b_17 : bd (-2147483647) 4000 y_16 := add_rg ty_16 b_5 kb_1 (by decide)
            refine lv_goto (tgt := 2) hx hb dX8_behindBlanks_33 (by decide) ?_
            have hl9 := lv_sub hl [0, 1, 2] (by rfl : lv_pick [(2, .int y_16), (0, .ref a0_), (1, .int x1_)] [0, 1, 2] = [(2, .int y_16), (0, .ref a0_), (1, .int x1_)])
            have g9 := g.sub (fx' := [(8, 4, a0_, .ref q0_)]) [1] rfl
            exact ih2  y_16  (by have h9_0 := b_17; unfold bd at h9_0; have h9_1 := bdT v2_2; unfold bd at h9_1; have h9_2 := kb_1; unfold bd at h9_2; have h9_3 := kb_10; unfold bd at h9_3; have h9_4 := kb_32; unfold bd at h9_4; omega) _ _ _ _ g9  hl9
  have hl9 := lv_sub hl [0, 1, 2] (by rfl : lv_pick [(2, .int x1_), (0, .ref a0_), (1, .int x1_)] [0, 1, 2] = [(2, .int x1_), (0, .ref a0_), (1, .int x1_)])
  have g9 := g.sub (fx' := [(8, 4, a0_, .ref q0_)]) [0] rfl
  exact loop_1 (8589934593) x1_  (by have h9_0 := bdT x1_; unfold bd at h9_0; omega) _ _ _ _ g9  hl9
set_option maxHeartbeats 4000000 in
set_option maxRecDepth 100000 in
theorem r_X8_pairKind (l : Launch) (dC : Nat → ClassId) (dI : Nat → Nat → Nat) (L : List Nat) (kd : Nat → Nat) (tys : List (ClassId × FieldType)) (f0 : Nat → va_E) (sz : Nat) (hWT : WT L kd tys f0) (x0_ : Int32) (x1_ : Int32) : Met l yX8_pairKind (.code yX8_pairKind cX8_pairKind 2 (some .int) :: lw_g) ({ frames := 0, cells := 0, slots := 0, locals := 0 }) (va_Pc [.int x0_, .int x1_] (P3 (dC, dI) L tys f0 sz)) (va_Qi (fun (r : Int32) (f : Nat → va_E) => (bd 2 206 r ∧ True)) (Q3 (dC, dI) L kd tys [] [] f0 sz) (pA L sz)) 0 0 (pA L sz) := by
  refine Met.ofW (cc := cX8_pairKind) (maxL := 2) (ret := (some .int)) (by decide) rfl ?_
  intro p e s m args below meth c s₁ B hml hv
  obtain ⟨rfl, hsz, hP, hK, hD0⟩ := hv
  have hx := B.exec
  have hb := B.bytes
  have hr := B.returns
  have hts := atoms_spec (ws := (.code yX8_pairKind cX8_pairKind 2 (some .int) :: lw_g)) B.pre
  have hown : s.vm.findClass RX8 = some m.cls := findClass_of_methodNamed B.named
  have hlocks := B.notSynchronized
  subst hsz
  have g : G3 (dC, dI) L kd tys s f0 [] [] f0 s.heap [] [] := G3.start hP hD0 hWT Fs.nil
  have hl := lv_entry ([.int x0_, .int x1_]) (n := 2) (Nat.le_of_ble_eq_true rfl)
  rw [lg_entry_eq]
  generalize (lg_sl ([.int x0_, .int x1_]) ++ List.replicate (2 - (lg_sl ([.int x0_, .int x1_])).length) Slot.unset).toArray = ls at hl ⊢
  have hl : lv_has ls 2 [(0, .int x0_), (1, .int x1_)] := hl
  refine W_q (fun Q hQ => ?_)
  refine lv_iload_n hx hb dX8_pairKind_0 rfl (lv_at hl 1 rfl) ?_
  refine lv_bipush (v := 61) hx hb dX8_pairKind_1 (by decide) ?_
  have kb_61 : bd 61 61 (61 : Int32) := ⟨by decide, by decide⟩
  refine lv_icmp_ne (tgt := 66) hx hb dX8_pairKind_3 (by decide) (fun c_1 => ?_) (fun c_1 => ?_)
  · have fc_1 := neq_f c_1
    refine lv_iload_n hx hb dX8_pairKind_66 rfl (lv_at hl 0 rfl) ?_
    refine lv_iload_n hx hb dX8_pairKind_67 rfl (lv_at hl 1 rfl) ?_
    refine lv_icmp_eq (tgt := 73) hx hb dX8_pairKind_68 (by decide) (fun c_2 => ?_) (fun c_2 => ?_)
    · have fc_2 := eq_f c_2
      refine lv_iload_n hx hb dX8_pairKind_73 rfl (lv_at hl 0 rfl) ?_
      by_cases e_3 : x0_ = 38
      · refine lv_topi (fun z_4 ez_4 => ?_)
        obtain rfl : z_4 = 38 := ez_4.trans e_3
        have kb_38 : bd 38 38 (38 : Int32) := ⟨by decide, by decide⟩
        have b_5 : bd 38 38 x0_ := eqX (eq_f e_3) (bdT x0_) kb_38 (by decide)
        refine lv_lookup (off := 38) (tgt := 112) hx hb dX8_pairKind_74 (by decide) (by decide) (by decide) ?_
        refine lv_sipush (v := 205) hx hb dX8_pairKind_112 (by decide) ?_
        have kb_205 : bd 205 205 (205 : Int32) := ⟨by decide, by decide⟩
        subst hQ
        exact W.iret (v := 205) hx hb hr (fun t ht hW => ⟨⟨_, _, rfl, ⟨(bd_sub kb_205 (by decide)), trivial⟩, q3_of g hK ht hW⟩, g.2.2.1.F ht⟩) g.2.2.1.2.2 dX8_pairKind_115
      by_cases e_6 : x0_ = 46
      · refine lv_topi (fun z_7 ez_7 => ?_)
        obtain rfl : z_7 = 46 := ez_7.trans e_6
        have kb_46 : bd 46 46 (46 : Int32) := ⟨by decide, by decide⟩
        have b_8 : bd 46 46 x0_ := eqX (eq_f e_6) (bdT x0_) kb_46 (by decide)
        refine lv_lookup (off := 34) (tgt := 108) hx hb dX8_pairKind_74 (by decide) (by decide) (by decide) ?_
        refine lv_sipush (v := 200) hx hb dX8_pairKind_108 (by decide) ?_
        have kb_200 : bd 200 200 (200 : Int32) := ⟨by decide, by decide⟩
        subst hQ
        exact W.iret (v := 200) hx hb hr (fun t ht hW => ⟨⟨_, _, rfl, ⟨(bd_sub kb_200 (by decide)), trivial⟩, q3_of g hK ht hW⟩, g.2.2.1.F ht⟩) g.2.2.1.2.2 dX8_pairKind_111
      by_cases e_9 : x0_ = 124
      · refine lv_topi (fun z_10 ez_10 => ?_)
        obtain rfl : z_10 = 124 := ez_10.trans e_9
        have kb_124 : bd 124 124 (124 : Int32) := ⟨by decide, by decide⟩
        have b_11 : bd 124 124 x0_ := eqX (eq_f e_9) (bdT x0_) kb_124 (by decide)
        refine lv_lookup (off := 42) (tgt := 116) hx hb dX8_pairKind_74 (by decide) (by decide) (by decide) ?_
        refine lv_sipush (v := 206) hx hb dX8_pairKind_116 (by decide) ?_
        have kb_206 : bd 206 206 (206 : Int32) := ⟨by decide, by decide⟩
        subst hQ
        exact W.iret (v := 206) hx hb hr (fun t ht hW => ⟨⟨_, _, rfl, ⟨(bd_sub kb_206 (by decide)), trivial⟩, q3_of g hK ht hW⟩, g.2.2.1.F ht⟩) g.2.2.1.2.2 dX8_pairKind_119
      refine lv_lookup (off := 46) (tgt := 120) hx hb dX8_pairKind_74 (by decide) (by have a0 : x0_.toInt ≠ 38 := fun h => e_3 (Int32.toInt_inj.mp (h.trans (by decide))); have a1 : x0_.toInt ≠ 46 := fun h => e_6 (Int32.toInt_inj.mp (h.trans (by decide))); have a2 : x0_.toInt ≠ 124 := fun h => e_9 (Int32.toInt_inj.mp (h.trans (by decide))); simp [Op.lookupswitch.offset, a0, a1, a2, Ne.symm]) (by decide) ?_
      refine lv_iconst (v := 2) hx hb dX8_pairKind_120 (by decide) ?_
      have kb_2 : bd 2 2 (2 : Int32) := ⟨by decide, by decide⟩
      subst hQ
      exact W.iret (v := 2) hx hb hr (fun t ht hW => ⟨⟨_, _, rfl, ⟨(bd_sub kb_2 (by decide)), trivial⟩, q3_of g hK ht hW⟩, g.2.2.1.F ht⟩) g.2.2.1.2.2 dX8_pairKind_121
    · have fc_2 := neq_f c_2
      refine lv_iconst (v := 2) hx hb dX8_pairKind_71 (by decide) ?_
      have kb_2 : bd 2 2 (2 : Int32) := ⟨by decide, by decide⟩
      subst hQ
      exact W.iret (v := 2) hx hb hr (fun t ht hW => ⟨⟨_, _, rfl, ⟨(bd_sub kb_2 (by decide)), trivial⟩, q3_of g hK ht hW⟩, g.2.2.1.F ht⟩) g.2.2.1.2.2 dX8_pairKind_72
  · have fc_1 := eq_f c_1
    have b_12 : bd 61 61 x1_ := eqX fc_1 (bdT x1_) kb_61 (by decide)
    refine lv_iload_n hx hb dX8_pairKind_6 rfl (lv_at hl 0 rfl) ?_
    by_cases e_13 : x0_ = 33
    · refine lv_topi (fun z_14 ez_14 => ?_)
      obtain rfl : z_14 = 33 := ez_14.trans e_13
      have kb_33 : bd 33 33 (33 : Int32) := ⟨by decide, by decide⟩
      have b_15 : bd 33 33 x0_ := eqX (eq_f e_13) (bdT x0_) kb_33 (by decide)
      refine lv_lookup (off := 45) (tgt := 52) hx hb dX8_pairKind_7 (by decide) (by decide) (by decide) ?_
      refine lv_sipush (v := 202) hx hb dX8_pairKind_52 (by decide) ?_
      have kb_202 : bd 202 202 (202 : Int32) := ⟨by decide, by decide⟩
      subst hQ
      exact W.iret (v := 202) hx hb hr (fun t ht hW => ⟨⟨_, _, rfl, ⟨(bd_sub kb_202 (by decide)), trivial⟩, q3_of g hK ht hW⟩, g.2.2.1.F ht⟩) g.2.2.1.2.2 dX8_pairKind_55
    by_cases e_16 : x0_ = 60
    · refine lv_topi (fun z_17 ez_17 => ?_)
      obtain rfl : z_17 = 60 := ez_17.trans e_16
      have kb_60 : bd 60 60 (60 : Int32) := ⟨by decide, by decide⟩
      have b_18 : bd 60 60 x0_ := eqX (eq_f e_16) (bdT x0_) kb_60 (by decide)
      refine lv_lookup (off := 49) (tgt := 56) hx hb dX8_pairKind_7 (by decide) (by decide) (by decide) ?_
      refine lv_sipush (v := 203) hx hb dX8_pairKind_56 (by decide) ?_
      have kb_203 : bd 203 203 (203 : Int32) := ⟨by decide, by decide⟩
      subst hQ
      exact W.iret (v := 203) hx hb hr (fun t ht hW => ⟨⟨_, _, rfl, ⟨(bd_sub kb_203 (by decide)), trivial⟩, q3_of g hK ht hW⟩, g.2.2.1.F ht⟩) g.2.2.1.2.2 dX8_pairKind_59
    by_cases e_19 : x0_ = 61
    · refine lv_topi (fun z_20 ez_20 => ?_)
      obtain rfl : z_20 = 61 := ez_20.trans e_19
      have b_21 : bd 61 61 x0_ := eqX (eq_f e_19) (bdT x0_) kb_61 (by decide)
      refine lv_lookup (off := 41) (tgt := 48) hx hb dX8_pairKind_7 (by decide) (by decide) (by decide) ?_
      refine lv_sipush (v := 201) hx hb dX8_pairKind_48 (by decide) ?_
      have kb_201 : bd 201 201 (201 : Int32) := ⟨by decide, by decide⟩
      subst hQ
      exact W.iret (v := 201) hx hb hr (fun t ht hW => ⟨⟨_, _, rfl, ⟨(bd_sub kb_201 (by decide)), trivial⟩, q3_of g hK ht hW⟩, g.2.2.1.F ht⟩) g.2.2.1.2.2 dX8_pairKind_51
    by_cases e_22 : x0_ = 62
    · refine lv_topi (fun z_23 ez_23 => ?_)
      obtain rfl : z_23 = 62 := ez_23.trans e_22
      have kb_62 : bd 62 62 (62 : Int32) := ⟨by decide, by decide⟩
      have b_24 : bd 62 62 x0_ := eqX (eq_f e_22) (bdT x0_) kb_62 (by decide)
      refine lv_lookup (off := 53) (tgt := 60) hx hb dX8_pairKind_7 (by decide) (by decide) (by decide) ?_
      refine lv_sipush (v := 204) hx hb dX8_pairKind_60 (by decide) ?_
      have kb_204 : bd 204 204 (204 : Int32) := ⟨by decide, by decide⟩
      subst hQ
      exact W.iret (v := 204) hx hb hr (fun t ht hW => ⟨⟨_, _, rfl, ⟨(bd_sub kb_204 (by decide)), trivial⟩, q3_of g hK ht hW⟩, g.2.2.1.F ht⟩) g.2.2.1.2.2 dX8_pairKind_63
    refine lv_lookup (off := 57) (tgt := 64) hx hb dX8_pairKind_7 (by decide) (by have a0 : x0_.toInt ≠ 33 := fun h => e_13 (Int32.toInt_inj.mp (h.trans (by decide))); have a1 : x0_.toInt ≠ 60 := fun h => e_16 (Int32.toInt_inj.mp (h.trans (by decide))); have a2 : x0_.toInt ≠ 61 := fun h => e_19 (Int32.toInt_inj.mp (h.trans (by decide))); have a3 : x0_.toInt ≠ 62 := fun h => e_22 (Int32.toInt_inj.mp (h.trans (by decide))); simp [Op.lookupswitch.offset, a0, a1, a2, a3, Ne.symm]) (by decide) ?_
    refine lv_iconst (v := 2) hx hb dX8_pairKind_64 (by decide) ?_
    have kb_2 : bd 2 2 (2 : Int32) := ⟨by decide, by decide⟩
    subst hQ
    exact W.iret (v := 2) hx hb hr (fun t ht hW => ⟨⟨_, _, rfl, ⟨(bd_sub kb_2 (by decide)), trivial⟩, q3_of g hK ht hW⟩, g.2.2.1.F ht⟩) g.2.2.1.2.2 dX8_pairKind_65
set_option maxHeartbeats 4000000 in
set_option maxRecDepth 100000 in
theorem r_X10_useText (l : Launch) (dC : Nat → ClassId) (dI : Nat → Nat → Nat) (L : List Nat) (kd : Nat → Nat) (tys : List (ClassId × FieldType)) (f0 : Nat → va_E) (sz : Nat) (hWT : WT L kd tys f0) (a0_ : Nat) (ma0_ : a0_ ∈ L) (ka0_ : kd a0_ = 10) (a1_ : Nat) (ma1_ : a1_ ∈ L) (ka1_ : kd a1_ = 7) (q0_ : Nat) (mq0_ : q0_ ∈ L) (kq0_ : kd q0_ = 3) (q1_ : Nat) (mq1_ : q1_ ∈ L) (kq1_ : kd q1_ = 4) (hfx : Fs L kd f0 [(10, 2, a0_, .ref q0_), (10, 4, a0_, .ref q1_)]) : Met l yX10_useText (.code yX10_useText cX10_useText 2 none :: lw_g) ({ frames := 2, cells := 0, slots := 0, locals := 42 }) (va_Pc [.ref a0_, .ref a1_] (P3 (dC, dI) L tys f0 sz)) (va_Qv (fun (f : Nat → va_E) => (Fs L kd f [(10, 8, a0_, .int 0), (10, 7, a0_, .int 0), (10, 6, a0_, .int 0), (4, 14, q1_, .int 0), (4, 6, q1_, .int 0), (4, 4, q1_, .int (-1)), (4, 3, q1_, .int (-1)), (4, 2, q1_, .int (-1)), (4, 1, q1_, .int (-1)), (4, 0, q1_, .int 0), (3, 4, q0_, .int 0), (3, 0, q0_, .int 0), (10, 0, a0_, .ref a1_)])) (Q3 (dC, dI) L kd tys [(3, 0), (3, 4), (4, 0), (4, 1), (4, 2), (4, 3), (4, 4), (4, 5), (4, 6), (4, 14), (10, 0), (10, 6), (10, 7), (10, 8)] [130, 131] f0 sz) (pA L sz)) 0 0 (pA L sz) := by
  refine Met.ofW (cc := cX10_useText) (maxL := 2) (ret := none) (by decide) rfl ?_
  intro p e s m args below meth c s₁ B hml hv
  obtain ⟨rfl, hsz, hP, hK, hD0⟩ := hv
  have hx := B.exec
  have hb := B.bytes
  have hr := B.returns
  have hts := atoms_spec (ws := (.code yX10_useText cX10_useText 2 none :: lw_g)) B.pre
  have hown : s.vm.findClass RX10 = some m.cls := findClass_of_methodNamed B.named
  have hlocks := B.notSynchronized
  subst hsz
  have g : G3 (dC, dI) L kd tys s f0 [(3, 0), (3, 4), (4, 0), (4, 1), (4, 2), (4, 3), (4, 4), (4, 5), (4, 6), (4, 14), (10, 0), (10, 6), (10, 7), (10, 8)] [130, 131] f0 s.heap [] [(10, 2, a0_, .ref q0_), (10, 4, a0_, .ref q1_)] := G3.start hP hD0 hWT hfx
  have hl := lv_entry ([.ref a0_, .ref a1_]) (n := 2) (Nat.le_of_ble_eq_true rfl)
  rw [lg_entry_eq]
  generalize (lg_sl ([.ref a0_, .ref a1_]) ++ List.replicate (2 - (lg_sl ([.ref a0_, .ref a1_])).length) Slot.unset).toArray = ls at hl ⊢
  have hl : lv_has ls 2 [(0, .ref a0_), (1, .ref a1_)] := hl
  refine W_q (fun Q hQ => ?_)
  refine lv_aload_n hx hb dX10_useText_0 rfl (lv_at hl 0 rfl) ?_
  refine lv_aload_n hx hb dX10_useText_1 rfl (lv_at hl 1 rfl) ?_
  refine g_put (C := RX10) (T := TX10) (N := 10) hx hb hts (mc_ inX10) tyX10 tyX10_ok nmX10 hown hK g ma0_ ka0_ (by decide) rfl 0 (by decide) (hts _ (List.mem_cons_of_mem _ t_912)) (fun _ h9 => h9) rfl rfl (okV_r ma1_ ka1_ (by decide)) rfl rfl (by decide) (Or.inr (Or.inl (by decide))) (fx' := [(10, 2, a0_, .ref q0_), (10, 4, a0_, .ref q1_)]) rfl dX10_useText_2 (fun f H locs hM_1 g => ?_)
  refine lv_aload_n hx hb dX10_useText_5 rfl (lv_at hl 0 rfl) ?_
  refine g_getk (C := RX10) (T := TX10) (N := 10) hx hb hts (mc_ inX10) hown hK g rfl 2 (by decide) rfl (hts _ (List.mem_cons_of_mem _ t_914)) (fun _ h9 => h9) 1 rfl dX10_useText_6 ?_
  refine g_callv (va_runV (As := []) (rest := []) ⟨hx, hb, hml, hown, hts⟩ (r_X3_wipe l dC dI L kd tys f H.size g.2.2.2.1 q0_ mq0_ kq0_) (cwV 0 hts (gV_ t_1422 t_1423 t_1424 t_196 t_1425) rfl rfl rfl (by decide +kernel) ⟨(Nat.le_of_ble_eq_true rfl), (Nat.le_of_ble_eq_true rfl)⟩) (pre3V g hK mq0_ kq0_ (by decide) (q := (RX3, TX3, 6)) rfl) rfl rfl hl.1 rfl (lv_room (Nat.le_of_ble_eq_true rfl)) dX10_useText_9 ⟨(Nat.le_of_ble_eq_true rfl), (Nat.le_of_ble_eq_true rfl)⟩) g hK (by decide) (by decide) (fx' := [(10, 0, a0_, .ref a1_), (10, 2, a0_, .ref q0_), (10, 4, a0_, .ref q1_)]) rfl (fun fr_2 H locs hp hMr_2 g => ?_)
  have hF_3 := hp
  have g := g.more hF_3
  refine lv_aload_n hx hb dX10_useText_12 rfl (lv_at hl 0 rfl) ?_
  refine g_getk (C := RX10) (T := TX10) (N := 10) hx hb hts (mc_ inX10) hown hK g rfl 4 (by decide) rfl (hts _ (List.mem_cons_of_mem _ t_917)) (fun _ h9 => h9) 4 rfl dX10_useText_13 ?_
  refine g_callv (va_runV (As := []) (rest := []) ⟨hx, hb, hml, hown, hts⟩ (r_X4_wipe l dC dI L kd tys fr_2 H.size g.2.2.2.1 q1_ mq1_ kq1_) (cwV 0 hts (gV_ t_1426 t_1427 t_1428 t_197 t_1429) rfl rfl rfl (by decide +kernel) ⟨(Nat.le_of_ble_eq_true rfl), (Nat.le_of_ble_eq_true rfl)⟩) (pre3V g hK mq1_ kq1_ (by decide) (q := (RX4, TX4, 17)) rfl) rfl rfl hl.1 rfl (lv_room (Nat.le_of_ble_eq_true rfl)) dX10_useText_16 ⟨(Nat.le_of_ble_eq_true rfl), (Nat.le_of_ble_eq_true rfl)⟩) g hK (by decide) (by decide) (fx' := [(3, 4, q0_, .int 0), (3, 0, q0_, .int 0), (10, 0, a0_, .ref a1_), (10, 2, a0_, .ref q0_), (10, 4, a0_, .ref q1_)]) rfl (fun fr_4 H locs hp hMr_4 g => ?_)
  have hF_5 := hp
  have g := g.more hF_5
  refine lv_aload_n hx hb dX10_useText_19 rfl (lv_at hl 0 rfl) ?_
  refine lv_iconst (v := 0) hx hb dX10_useText_20 (by decide) ?_
  have kb_0 : bd 0 0 (0 : Int32) := ⟨by decide, by decide⟩
  refine g_put (C := RX10) (T := TX10) (N := 10) hx hb hts (mc_ inX10) tyX10 tyX10_ok nmX10 hown hK g ma0_ ka0_ (by decide) rfl 6 (by decide) (hts _ (List.mem_cons_of_mem _ t_920)) (fun _ h9 => h9) rfl rfl (okV_i (bd_sub kb_0 (by decide))) rfl rfl (by decide) (Or.inr (Or.inl (by decide))) (fx' := [(4, 14, q1_, .int 0), (4, 6, q1_, .int 0), (4, 4, q1_, .int (-1)), (4, 3, q1_, .int (-1)), (4, 2, q1_, .int (-1)), (4, 1, q1_, .int (-1)), (4, 0, q1_, .int 0), (3, 4, q0_, .int 0), (3, 0, q0_, .int 0), (10, 0, a0_, .ref a1_), (10, 2, a0_, .ref q0_), (10, 4, a0_, .ref q1_)]) rfl dX10_useText_21 (fun f H locs hM_6 g => ?_)
  refine lv_aload_n hx hb dX10_useText_24 rfl (lv_at hl 0 rfl) ?_
  refine lv_iconst (v := 0) hx hb dX10_useText_25 (by decide) ?_
  refine g_put (C := RX10) (T := TX10) (N := 10) hx hb hts (mc_ inX10) tyX10 tyX10_ok nmX10 hown hK g ma0_ ka0_ (by decide) rfl 7 (by decide) (hts _ (List.mem_cons_of_mem _ t_922)) (fun _ h9 => h9) rfl rfl (okV_i (bd_sub kb_0 (by decide))) rfl rfl (by decide) (Or.inr (Or.inl (by decide))) (fx' := [(10, 6, a0_, .int 0), (4, 14, q1_, .int 0), (4, 6, q1_, .int 0), (4, 4, q1_, .int (-1)), (4, 3, q1_, .int (-1)), (4, 2, q1_, .int (-1)), (4, 1, q1_, .int (-1)), (4, 0, q1_, .int 0), (3, 4, q0_, .int 0), (3, 0, q0_, .int 0), (10, 0, a0_, .ref a1_), (10, 2, a0_, .ref q0_), (10, 4, a0_, .ref q1_)]) rfl dX10_useText_26 (fun f H locs hM_7 g => ?_)
  refine lv_aload_n hx hb dX10_useText_29 rfl (lv_at hl 0 rfl) ?_
  refine lv_iconst (v := 0) hx hb dX10_useText_30 (by decide) ?_
  refine g_put (C := RX10) (T := TX10) (N := 10) hx hb hts (mc_ inX10) tyX10 tyX10_ok nmX10 hown hK g ma0_ ka0_ (by decide) rfl 8 (by decide) (hts _ (List.mem_cons_of_mem _ t_924)) (fun _ h9 => h9) rfl rfl (okV_i (bd_sub kb_0 (by decide))) rfl rfl (by decide) (Or.inr (Or.inl (by decide))) (fx' := [(10, 7, a0_, .int 0), (10, 6, a0_, .int 0), (4, 14, q1_, .int 0), (4, 6, q1_, .int 0), (4, 4, q1_, .int (-1)), (4, 3, q1_, .int (-1)), (4, 2, q1_, .int (-1)), (4, 1, q1_, .int (-1)), (4, 0, q1_, .int 0), (3, 4, q0_, .int 0), (3, 0, q0_, .int 0), (10, 0, a0_, .ref a1_), (10, 2, a0_, .ref q0_), (10, 4, a0_, .ref q1_)]) rfl dX10_useText_31 (fun f H locs hM_8 g => ?_)
  subst hQ
  exact W.vret hx hb hr (fun t ht hW => ⟨⟨_, rfl, (g.fcts [0, 1, 2, 3, 4, 5, 6, 7, 8, 9, 10, 11, 12] rfl), q3_of g hK ht hW⟩, g.2.2.1.F ht⟩) g.2.2.1.2.2 dX10_useText_34
set_option maxHeartbeats 4000000 in
set_option maxRecDepth 100000 in
theorem r_X10_emptyRow (l : Launch) (dC : Nat → ClassId) (dI : Nat → Nat → Nat) (L : List Nat) (kd : Nat → Nat) (tys : List (ClassId × FieldType)) (f0 : Nat → va_E) (sz : Nat) (hWT : WT L kd tys f0) (a0_ : Nat) (ma0_ : a0_ ∈ L) (ka0_ : kd a0_ = 10) (q0_ : Nat) (mq0_ : q0_ ∈ L) (kq0_ : kd q0_ = 3) (hfx : Fs L kd f0 [(10, 2, a0_, .ref q0_)]) : Met l yX10_emptyRow (.code yX10_emptyRow cX10_emptyRow 1 none :: lw_g) ({ frames := 1, cells := 0, slots := 0, locals := 20 }) (va_Pc [.ref a0_] (P3 (dC, dI) L tys f0 sz)) (va_Qv (fun (f : Nat → va_E) => (Fs L kd f [(10, 8, a0_, .int 0), (3, 4, q0_, .int 0), (3, 0, q0_, .int 0)])) (Q3 (dC, dI) L kd tys [(3, 0), (3, 4), (10, 8)] [] f0 sz) (pA L sz)) 0 0 (pA L sz) := by
  refine Met.ofW (cc := cX10_emptyRow) (maxL := 1) (ret := none) (by decide) rfl ?_
  intro p e s m args below meth c s₁ B hml hv
  obtain ⟨rfl, hsz, hP, hK, hD0⟩ := hv
  have hx := B.exec
  have hb := B.bytes
  have hr := B.returns
  have hts := atoms_spec (ws := (.code yX10_emptyRow cX10_emptyRow 1 none :: lw_g)) B.pre
  have hown : s.vm.findClass RX10 = some m.cls := findClass_of_methodNamed B.named
  have hlocks := B.notSynchronized
  subst hsz
  have g : G3 (dC, dI) L kd tys s f0 [(3, 0), (3, 4), (10, 8)] [] f0 s.heap [] [(10, 2, a0_, .ref q0_)] := G3.start hP hD0 hWT hfx
  have hl := lv_entry ([.ref a0_]) (n := 1) (Nat.le_of_ble_eq_true rfl)
  rw [lg_entry_eq]
  generalize (lg_sl ([.ref a0_]) ++ List.replicate (1 - (lg_sl ([.ref a0_])).length) Slot.unset).toArray = ls at hl ⊢
  have hl : lv_has ls 1 [(0, .ref a0_)] := hl
  refine W_q (fun Q hQ => ?_)
  refine lv_aload_n hx hb dX10_emptyRow_0 rfl (lv_at hl 0 rfl) ?_
  refine g_getk (C := RX10) (T := TX10) (N := 10) hx hb hts (mc_ inX10) hown hK g rfl 2 (by decide) rfl (hts _ (List.mem_cons_of_mem _ t_914)) (fun _ h9 => h9) 0 rfl dX10_emptyRow_1 ?_
  refine g_callv (va_runV (As := []) (rest := []) ⟨hx, hb, hml, hown, hts⟩ (r_X3_wipe l dC dI L kd tys f0 s.heap.size g.2.2.2.1 q0_ mq0_ kq0_) (cwV 0 hts (gV_ t_1422 t_1423 t_1424 t_196 t_1425) rfl rfl rfl (by decide +kernel) ⟨(Nat.le_of_ble_eq_true rfl), (Nat.le_of_ble_eq_true rfl)⟩) (pre3V g hK mq0_ kq0_ (by decide) (q := (RX3, TX3, 6)) rfl) rfl rfl hl.1 rfl (lv_room (Nat.le_of_ble_eq_true rfl)) dX10_emptyRow_4 ⟨(Nat.le_of_ble_eq_true rfl), (Nat.le_of_ble_eq_true rfl)⟩) g hK (by decide) (by decide) (fx' := [(10, 2, a0_, .ref q0_)]) rfl (fun fr_1 H locs hp hMr_1 g => ?_)
  have hF_2 := hp
  have g := g.more hF_2
  refine lv_aload_n hx hb dX10_emptyRow_7 rfl (lv_at hl 0 rfl) ?_
  refine lv_iconst (v := 0) hx hb dX10_emptyRow_8 (by decide) ?_
  have kb_0 : bd 0 0 (0 : Int32) := ⟨by decide, by decide⟩
  refine g_put (C := RX10) (T := TX10) (N := 10) hx hb hts (mc_ inX10) tyX10 tyX10_ok nmX10 hown hK g ma0_ ka0_ (by decide) rfl 8 (by decide) (hts _ (List.mem_cons_of_mem _ t_924)) (fun _ h9 => h9) rfl rfl (okV_i (bd_sub kb_0 (by decide))) rfl rfl (by decide) (Or.inr (Or.inl (by decide))) (fx' := [(3, 4, q0_, .int 0), (3, 0, q0_, .int 0), (10, 2, a0_, .ref q0_)]) rfl dX10_emptyRow_9 (fun f H locs hM_3 g => ?_)
  subst hQ
  exact W.vret hx hb hr (fun t ht hW => ⟨⟨_, rfl, (g.fcts [0, 1, 2] rfl), q3_of g hK ht hW⟩, g.2.2.1.F ht⟩) g.2.2.1.2.2 dX10_emptyRow_12
set_option maxHeartbeats 4000000 in
set_option maxRecDepth 100000 in
theorem r_X9_fillNew (l : Launch) (dC : Nat → ClassId) (dI : Nat → Nat → Nat) (L : List Nat) (kd : Nat → Nat) (tys : List (ClassId × FieldType)) (f0 : Nat → va_E) (sz : Nat) (hWT : WT L kd tys f0) (a0_ : Nat) (ma0_ : a0_ ∈ L) (ka0_ : kd a0_ = 9) (a1_ : Nat) (ma1_ : a1_ ∈ L) (ka1_ : kd a1_ = 101) : Met l yX9_fillNew (.code yX9_fillNew cX9_fillNew 5 none :: lw_g) ({ frames := 1, cells := 0, slots := 0, locals := 14 }) (va_Pc [.ref a0_, .ref a1_] (P3 (dC, dI) L tys f0 sz)) (va_Qv (fun (f : Nat → va_E) => (True)) (Q3 (dC, dI) L kd tys [] [101] f0 sz) (pA L sz)) 0 0 (pA L sz) := by
  refine Met.ofW (cc := cX9_fillNew) (maxL := 5) (ret := none) (by decide) rfl ?_
  intro p e s m args below meth c s₁ B hml hv
  obtain ⟨rfl, hsz, hP, hK, hD0⟩ := hv
  have hx := B.exec
  have hb := B.bytes
  have hr := B.returns
  have hts := atoms_spec (ws := (.code yX9_fillNew cX9_fillNew 5 none :: lw_g)) B.pre
  have hown : s.vm.findClass RX9 = some m.cls := findClass_of_methodNamed B.named
  have hlocks := B.notSynchronized
  subst hsz
  have g : G3 (dC, dI) L kd tys s f0 [] [101] f0 s.heap [] [] := G3.start hP hD0 hWT Fs.nil
  have hl := lv_entry ([.ref a0_, .ref a1_]) (n := 5) (Nat.le_of_ble_eq_true rfl)
  rw [lg_entry_eq]
  generalize (lg_sl ([.ref a0_, .ref a1_]) ++ List.replicate (5 - (lg_sl ([.ref a0_, .ref a1_])).length) Slot.unset).toArray = ls at hl ⊢
  have hl : lv_has ls 5 [(0, .ref a0_), (1, .ref a1_)] := hl
  refine W_q (fun Q hQ => ?_)
  refine lv_iconst (v := 0) hx hb dX9_fillNew_0 (by decide) ?_
  refine lv_istore_n (lv' := [(2, .int 0), (0, .ref a0_), (1, .ref a1_)]) hx hb dX9_fillNew_1 rfl hl (by decide) rfl (fun ls hl => ?_)
  have loop_1 : ∀ (n : Nat) (v2_2 : Int32), bd 0 10 v2_2 → (10 - v2_2.toInt < (n : Int)) → ∀ (f : Nat → va_E) (H : Heap) (locs : List Loc) (ls : Array Slot), G3 (dC, dI) L kd tys s f0 [] [101] f H locs [] → lv_has ls 5 [(2, .int v2_2), (0, .ref a0_), (1, .ref a1_)] → W p l e ({ frames := 1, cells := 0, slots := 0, locals := 14 } : Room) s m [.ref a0_, .ref a1_].toArray below meth c H locs 0 0 Q (F0 m 2 ls []) := by
    intro n2
    induction n2 with
    | zero =>
      intro v2_2 bv2_2 hm2 f H locs ls g  hl
      exact absurd hm2 (by have h9_v2_2 := bv2_2; unfold bd at h9_v2_2; omega)
    | succ n2 ih2 =>
      intro v2_2 bv2_2 hm2 f H locs ls g  hl
      refine lv_iload_n hx hb dX9_fillNew_2 rfl (lv_at hl 0 rfl) ?_
      refine lv_aload_n hx hb dX9_fillNew_3 rfl (lv_at hl 1 rfl) ?_
      refine g_geti (C := RX9) (T := TX9) (N := 13) hx hb hts (mc_ inX9) hown hK g ma0_ ka0_ (by decide) rfl 2 (by decide) rfl (hts _ (List.mem_cons_of_mem _ t_485)) (fun _ h9 => h9) rfl dX9_fillNew_4 (fun x_2 bx_2 g => ?_)
      refine lv_icmp_ge (tgt := 71) hx hb dX9_fillNew_7 (by decide) (fun c_3 => ?_) (fun c_3 => ?_)
      · have fc_3 := le_f c_3
        subst hQ
        exact W.vret hx hb hr (fun t ht hW => ⟨⟨_, rfl, trivial, q3_of g hK ht hW⟩, g.2.2.1.F ht⟩) g.2.2.1.2.2 dX9_fillNew_71
      · have fc_3 := nle_f c_3
        have b_4 : bd 0 9 v2_2 := ltL fc_3 bv2_2 bx_2 (by decide)
        have b_5 : bd 1 10 x_2 := ltR fc_3 bv2_2 bx_2 (by decide)
        refine lv_aload_n hx hb dX9_fillNew_10 rfl (lv_at hl 1 rfl) ?_
        refine g_getr (K := 153) (C := RX9) (T := TX9) (N := 13) hx hb hts (mc_ inX9) hown hK g ma0_ ka0_ (by decide) rfl 4 (by decide) rfl (hts _ (List.mem_cons_of_mem _ t_489)) (fun _ h9 => h9) rfl dX9_fillNew_11 (fun a_6 ma_6 ka_6 g => ?_)
        refine lv_iload_n hx hb dX9_fillNew_14 rfl (lv_at hl 0 rfl) ?_
        refine g_iald hx hb hK g ma_6 ka_6 (by decide) rfl (in_bd b_4 (by decide)) dX9_fillNew_15 (fun x_7 bx_7 cx_7 => ?_)
        refine lv_aload_n hx hb dX9_fillNew_16 rfl (lv_at hl 1 rfl) ?_
        refine g_getr (K := 154) (C := RX9) (T := TX9) (N := 13) hx hb hts (mc_ inX9) hown hK g ma0_ ka0_ (by decide) rfl 5 (by decide) rfl (hts _ (List.mem_cons_of_mem _ t_490)) (fun _ h9 => h9) rfl dX9_fillNew_17 (fun a_8 ma_8 ka_8 g => ?_)
        refine lv_iload_n hx hb dX9_fillNew_20 rfl (lv_at hl 0 rfl) ?_
        refine g_iald hx hb hK g ma_8 ka_8 (by decide) rfl (in_bd b_4 (by decide)) dX9_fillNew_21 (fun x_9 bx_9 cx_9 => ?_)
        refine lv_iconst (v := 1) hx hb dX9_fillNew_22 (by decide) ?_
        have kb_1 : bd 1 1 (1 : Int32) := ⟨by decide, by decide⟩
        refine va_mmax hx hb (hml.trans hl.1.symm) hown (hts _ (List.mem_cons_of_mem _ t_1168)) (hts _ (List.mem_cons_of_mem _ t_1041)) (hts _ (List.mem_cons_of_mem _ t_204)) (hts _ (List.mem_cons_of_mem _ t_1042)) (Nat.le_of_ble_eq_true rfl) (Nat.le_of_ble_eq_true rfl) (Nat.le_of_ble_eq_true rfl) (Nat.le_of_ble_eq_true rfl) dX9_fillNew_23 ?_
        refine lv_topi (fun y_10 ey_10 => ?_)
        have ty_10 : y_10.toInt = max x_9.toInt (1 : Int32).toInt := by rw [ey_10]; exact mmax_ok _ _
        have b_11 : bd 1 8 y_10 := max_rg ty_10 bx_9 kb_1 (by decide)
        refine lv_iadd hx hb dX9_fillNew_26 ?_
        refine lv_topi (fun y_12 ey_12 => ?_)
        have ty_12 := add_bd ey_12 bx_7 b_11 (by decide)
        have b_13 : bd 1 32 y_12 := add_rg ty_12 bx_7 b_11 (by decide)
        refine lv_istore_n (lv' := [(3, .int y_12), (2, .int v2_2), (0, .ref a0_), (1, .ref a1_)]) hx hb dX9_fillNew_27 rfl hl (by decide) rfl (fun ls hl => ?_)
        refine lv_aload_n hx hb dX9_fillNew_28 rfl (lv_at hl 2 rfl) ?_
        refine g_getk (C := RX9) (T := TX9) (N := 13) hx hb hts (mc_ inX9) hown hK g rfl 4 (by decide) rfl (hts _ (List.mem_cons_of_mem _ t_489)) (fun _ h9 => h9) 1 rfl dX9_fillNew_29 ?_
        refine lv_iload_n hx hb dX9_fillNew_32 rfl (lv_at hl 1 rfl) ?_
        refine g_iald hx hb hK g ma_6 ka_6 (by decide) rfl (in_bd b_4 (by decide)) dX9_fillNew_33 (fun x_14 bx_14 cx_14 => ?_)
        obtain rfl : x_7 = x_14 := el_same cx_7 cx_14 rfl
        refine lv_istore (lv' := [(4, .int x_7), (3, .int y_12), (2, .int v2_2), (0, .ref a0_), (1, .ref a1_)]) hx hb dX9_fillNew_34 hl (by decide) rfl (fun ls hl => ?_)
        have loop_15 : ∀ (n : Nat) (v36_4 : Int32), bd 0 24 v36_4 → (24 - v36_4.toInt < (n : Int)) → ∀ (f : Nat → va_E) (H : Heap) (locs : List Loc) (ls : Array Slot), G3 (dC, dI) L kd tys s f0 [] [101] f H locs [(9, 5, a0_, .ref a_8), (9, 4, a0_, .ref a_6), (9, 2, a0_, .int x_2)] → lv_has ls 5 [(4, .int v36_4), (3, .int y_12), (2, .int v2_2), (0, .ref a0_), (1, .ref a1_)] → W p l e ({ frames := 1, cells := 0, slots := 0, locals := 14 } : Room) s m [.ref a0_, .ref a1_].toArray below meth c H locs 0 0 Q (F0 m 36 ls []) := by
          intro n36
          induction n36 with
          | zero =>
            intro v36_4 bv36_4 hm36 f H locs ls g  hl
            exact absurd hm36 (by have h9_v36_4 := bv36_4; unfold bd at h9_v36_4; omega)
          | succ n36 ih36 =>
            intro v36_4 bv36_4 hm36 f H locs ls g  hl
            refine lv_iload hx hb dX9_fillNew_36 (lv_at hl 0 rfl) ?_
            refine lv_iload_n hx hb dX9_fillNew_38 rfl (lv_at hl 1 rfl) ?_
            refine lv_icmp_ge (tgt := 65) hx hb dX9_fillNew_39 (by decide) (fun c_16 => ?_) (fun c_16 => ?_)
            · have fc_16 := le_f c_16
              have b_17 : bd 1 24 y_12 := leL fc_16 b_13 bv36_4 (by decide)
              have b_18 : bd 1 24 v36_4 := leR fc_16 b_13 bv36_4 (by decide)
              obtain ⟨y_19, ey_19⟩ : ∃ z : Int32, z = v2_2 + 1 := ⟨_, rfl⟩
              refine lv_iinc (v := y_19) (lv' := [(2, .int y_19), (4, .int v36_4), (3, .int y_12), (0, .ref a0_), (1, .ref a1_)]) hx hb dX9_fillNew_65 hl (k := 2) rfl (by rw [ey_19]; rfl) (by decide) rfl (fun ls hl => ?_)
              have ty_19 := add_bd ey_19 b_4 kb_1 (by decide)
              have b_20 : bd 1 10 y_19 := add_rg ty_19 b_4 kb_1 (by decide)
              refine lv_goto (tgt := 2) hx hb dX9_fillNew_68 (by decide) ?_
              have hl9 := lv_sub hl [0, 3, 4] (by rfl : lv_pick [(2, .int y_19), (4, .int v36_4), (3, .int y_12), (0, .ref a0_), (1, .ref a1_)] [0, 3, 4] = [(2, .int y_19), (0, .ref a0_), (1, .ref a1_)])
              have g9 := g.sub (fx' := []) [] rfl
              exact ih2  y_19 (bd_sub b_20 (by decide)) (by have h9_0 := b_20; unfold bd at h9_0; have h9_1 := bv2_2; unfold bd at h9_1; have h9_2 := kb_1; unfold bd at h9_2; omega) _ _ _ _ g9  hl9
            · have fc_16 := nle_f c_16
              refine lv_iload hx hb dX9_fillNew_42 (lv_at hl 0 rfl) ?_
              refine lv_aload_n hx hb dX9_fillNew_44 rfl (lv_at hl 4 rfl) ?_
              refine g_alen (v := 24) hx hb hK g ma1_ ka1_ (by decide) rfl dX9_fillNew_45 ?_
              have kb_24 : bd 24 24 (24 : Int32) := ⟨by decide, by decide⟩
              refine lv_icmp_ge (tgt := 65) hx hb dX9_fillNew_46 (by decide) (fun c_21 => ?_) (fun c_21 => ?_)
              · have fc_21 := le_f c_21
                have b_22 : bd 24 24 v36_4 := leR fc_21 kb_24 bv36_4 (by decide)
                obtain ⟨y_23, ey_23⟩ : ∃ z : Int32, z = v2_2 + 1 := ⟨_, rfl⟩
                refine lv_iinc (v := y_23) (lv' := [(2, .int y_23), (4, .int v36_4), (3, .int y_12), (0, .ref a0_), (1, .ref a1_)]) hx hb dX9_fillNew_65 hl (k := 2) rfl (by rw [ey_23]; rfl) (by decide) rfl (fun ls hl => ?_)
                have ty_23 := add_bd ey_23 b_4 kb_1 (by decide)
                have b_24 : bd 1 10 y_23 := add_rg ty_23 b_4 kb_1 (by decide)
                refine lv_goto (tgt := 2) hx hb dX9_fillNew_68 (by decide) ?_
                have hl9 := lv_sub hl [0, 3, 4] (by rfl : lv_pick [(2, .int y_23), (4, .int v36_4), (3, .int y_12), (0, .ref a0_), (1, .ref a1_)] [0, 3, 4] = [(2, .int y_23), (0, .ref a0_), (1, .ref a1_)])
                have g9 := g.sub (fx' := []) [] rfl
                exact ih2  y_23 (bd_sub b_24 (by decide)) (by have h9_0 := b_24; unfold bd at h9_0; have h9_1 := bv2_2; unfold bd at h9_1; have h9_2 := kb_1; unfold bd at h9_2; have h9_3 := kb_24; unfold bd at h9_3; omega) _ _ _ _ g9  hl9
              · have fc_21 := nle_f c_21
                have b_25 : bd 0 23 v36_4 := ltL fc_21 bv36_4 kb_24 (by decide)
                refine lv_aload_n hx hb dX9_fillNew_49 rfl (lv_at hl 4 rfl) ?_
                refine lv_iload hx hb dX9_fillNew_50 (lv_at hl 0 rfl) ?_
                refine lv_aload_n hx hb dX9_fillNew_52 rfl (lv_at hl 3 rfl) ?_
                refine g_getr (K := 155) (C := RX9) (T := TX9) (N := 13) hx hb hts (mc_ inX9) hown hK g ma0_ ka0_ (by decide) rfl 6 (by decide) rfl (hts _ (List.mem_cons_of_mem _ t_492)) (fun _ h9 => h9) rfl dX9_fillNew_53 (fun a_26 ma_26 ka_26 g => ?_)
                refine lv_iload_n hx hb dX9_fillNew_56 rfl (lv_at hl 2 rfl) ?_
                refine g_iald hx hb hK g ma_26 ka_26 (by decide) rfl (in_bd b_4 (by decide)) dX9_fillNew_57 (fun x_27 bx_27 cx_27 => ?_)
                refine g_iast hx hb hK g ma1_ ka1_ (by decide) rfl (in_bd b_25 (by decide)) (bdT x_27) (by decide) dX9_fillNew_58 (fun f H locs hM_28 g => ?_)
                obtain ⟨y_29, ey_29⟩ : ∃ z : Int32, z = v36_4 + 1 := ⟨_, rfl⟩
                refine lv_iinc (v := y_29) (lv' := [(4, .int y_29), (3, .int y_12), (2, .int v2_2), (0, .ref a0_), (1, .ref a1_)]) hx hb dX9_fillNew_59 hl (k := 0) rfl (by rw [ey_29]; rfl) (by decide) rfl (fun ls hl => ?_)
                have ty_29 := add_bd ey_29 b_25 kb_1 (by decide)
                have b_30 : bd 1 24 y_29 := add_rg ty_29 b_25 kb_1 (by decide)
                refine lv_goto (tgt := 36) hx hb dX9_fillNew_62 (by decide) ?_
                have hl9 := lv_sub hl [0, 1, 2, 3, 4] (by rfl : lv_pick [(4, .int y_29), (3, .int y_12), (2, .int v2_2), (0, .ref a0_), (1, .ref a1_)] [0, 1, 2, 3, 4] = [(4, .int y_29), (3, .int y_12), (2, .int v2_2), (0, .ref a0_), (1, .ref a1_)])
                have g9 := g.sub (fx' := [(9, 5, a0_, .ref a_8), (9, 4, a0_, .ref a_6), (9, 2, a0_, .int x_2)]) [1, 2, 3] rfl
                exact ih36  y_29 (bd_sub b_30 (by decide)) (by have h9_0 := b_30; unfold bd at h9_0; have h9_1 := bv36_4; unfold bd at h9_1; have h9_2 := kb_1; unfold bd at h9_2; have h9_3 := kb_24; unfold bd at h9_3; omega) _ _ _ _ g9  hl9
        have hl9 := lv_sub hl [0, 1, 2, 3, 4] (by rfl : lv_pick [(4, .int x_7), (3, .int y_12), (2, .int v2_2), (0, .ref a0_), (1, .ref a1_)] [0, 1, 2, 3, 4] = [(4, .int x_7), (3, .int y_12), (2, .int v2_2), (0, .ref a0_), (1, .ref a1_)])
        have g9 := g.sub (fx' := [(9, 5, a0_, .ref a_8), (9, 4, a0_, .ref a_6), (9, 2, a0_, .int x_2)]) [0, 1, 2] rfl
        exact loop_15 (51) x_7 bx_7 (by have h9_0 := bx_7; unfold bd at h9_0; have h9_1 := kb_1; unfold bd at h9_1; omega) _ _ _ _ g9  hl9
  have kb_0 : bd 0 0 (0 : Int32) := ⟨by decide, by decide⟩
  have hl9 := lv_sub hl [0, 1, 2] (by rfl : lv_pick [(2, .int 0), (0, .ref a0_), (1, .ref a1_)] [0, 1, 2] = [(2, .int 0), (0, .ref a0_), (1, .ref a1_)])
  have g9 := g.sub (fx' := []) [] rfl
  exact loop_1 (23) 0 (bd_sub kb_0 (by decide)) (by have h9_0 := kb_0; unfold bd at h9_0; omega) _ _ _ _ g9  hl9
