set_option maxHeartbeats 4000000 in
set_option maxRecDepth 100000 in
theorem r_X14_in (l : Launch) (dC : Nat → ClassId) (dI : Nat → Nat → Nat) (L : List Nat) (kd : Nat → Nat) (tys : List (ClassId × FieldType)) (f0 : Nat → va_E) (sz : Nat) (hWT : WT L kd tys f0) (x0_ : Int64) (x1_ : Int64) (x2_ : Int64) : Met l yX14_in (.code yX14_in cX14_in 6 (some .boolean) :: lw_g) ({ frames := 0, cells := 0, slots := 0, locals := 0 }) (va_Pc [.long x0_, .long x1_, .long x2_] (P3 (dC, dI) L tys f0 sz)) (va_Qi (fun (r : Int32) (f : Nat → va_E) => ((¬ (x1_ ≤ x0_ ∧ x0_ ≤ x2_)) ∧ r = 0 ∧ True) ∨ (r = 1 ∧ (x1_ ≤ x0_ ∧ x0_ ≤ x2_) ∧ True)) (Q3 (dC, dI) L kd tys [] [] f0 sz) (pA L sz)) 0 0 (pA L sz) := by
  refine Met.ofW (cc := cX14_in) (maxL := 6) (ret := (some .boolean)) (by decide) rfl ?_
  intro p e s m args below meth c s₁ B hml hv
  obtain ⟨rfl, hsz, hP, hK, hD0⟩ := hv
  have hx := B.exec
  have hb := B.bytes
  have hr := B.returns
  have hts := atoms_spec (ws := (.code yX14_in cX14_in 6 (some .boolean) :: lw_g)) B.pre
  have hown : s.vm.findClass RX14 = some m.cls := findClass_of_methodNamed B.named
  have hlocks := B.notSynchronized
  subst hsz
  have g : G3 (dC, dI) L kd tys s f0 [] [] f0 s.heap [] [] := G3.start hP hD0 hWT Fs.nil
  have hl := lv_entry ([.long x0_, .long x1_, .long x2_]) (n := 6) (Nat.le_of_ble_eq_true rfl)
  rw [lg_entry_eq]
  generalize (lg_sl ([.long x0_, .long x1_, .long x2_]) ++ List.replicate (6 - (lg_sl ([.long x0_, .long x1_, .long x2_])).length) Slot.unset).toArray = ls at hl ⊢
  have hl : lv_has ls 6 [(0, .long x0_), (2, .long x1_), (4, .long x2_)] := hl
  refine W_q (fun Q hQ => ?_)
  refine lv_lload_n hx hb dX14_in_0 rfl (lv_at hl 0 rfl) ?_
  refine lv_lload_n hx hb dX14_in_1 rfl (lv_at hl 1 rfl) ?_
  refine W.lcmp hx hb dX14_in_2 ?_
  refine lv_if_lt (tgt := 17) hx hb dX14_in_3 (by decide) (fun c_1 => ?_) (fun c_1 => ?_)
  · rw [lg_cmp_lt] at c_1
    refine lv_iconst (v := 0) hx hb dX14_in_17 (by decide) ?_
    subst hQ
    have kb_0 : bd 0 0 (0 : Int32) := ⟨by decide, by decide⟩
    exact W.zret (v := 0) hx hb hr (nar_z (bd_sub kb_0 (by decide) : bd 0 1 _).1 (bd_sub kb_0 (by decide) : bd 0 1 _).2) (fun t ht hW => ⟨⟨_, _, rfl, Or.inl ⟨(fun h9 => absurd h9.1 (Int64.not_le.mpr c_1)), rfl, trivial⟩, q3_of g hK ht hW⟩, g.2.2.1.F ht⟩) g.2.2.1.2.2 dX14_in_18
  · rw [lg_cmp_lt] at c_1
    refine lv_lload_n hx hb dX14_in_6 rfl (lv_at hl 0 rfl) ?_
    refine lv_lload hx hb dX14_in_7 (lv_at hl 2 rfl) ?_
    refine W.lcmp hx hb dX14_in_9 ?_
    refine lv_if_gt (tgt := 17) hx hb dX14_in_10 (by decide) (fun c_2 => ?_) (fun c_2 => ?_)
    · rw [lg_cmp_gt] at c_2
      refine lv_iconst (v := 0) hx hb dX14_in_17 (by decide) ?_
      subst hQ
      have kb_0 : bd 0 0 (0 : Int32) := ⟨by decide, by decide⟩
      exact W.zret (v := 0) hx hb hr (nar_z (bd_sub kb_0 (by decide) : bd 0 1 _).1 (bd_sub kb_0 (by decide) : bd 0 1 _).2) (fun t ht hW => ⟨⟨_, _, rfl, Or.inl ⟨(fun h9 => absurd h9.2 (Int64.not_le.mpr c_2)), rfl, trivial⟩, q3_of g hK ht hW⟩, g.2.2.1.F ht⟩) g.2.2.1.2.2 dX14_in_18
    · rw [lg_cmp_gt] at c_2
      refine lv_iconst (v := 1) hx hb dX14_in_13 (by decide) ?_
      refine lv_goto (tgt := 18) hx hb dX14_in_14 (by decide) ?_
      subst hQ
      have kb_1 : bd 1 1 (1 : Int32) := ⟨by decide, by decide⟩
      exact W.zret (v := 1) hx hb hr (nar_z (bd_sub kb_1 (by decide) : bd 0 1 _).1 (bd_sub kb_1 (by decide) : bd 0 1 _).2) (fun t ht hW => ⟨⟨_, _, rfl, Or.inr (⟨rfl, ⟨Int64.not_lt.mp c_1, Int64.not_lt.mp c_2⟩, trivial⟩), q3_of g hK ht hW⟩, g.2.2.1.F ht⟩) g.2.2.1.2.2 dX14_in_18
set_option maxHeartbeats 4000000 in
set_option maxRecDepth 100000 in
theorem r_X14_isSmall (l : Launch) (dC : Nat → ClassId) (dI : Nat → Nat → Nat) (L : List Nat) (kd : Nat → Nat) (tys : List (ClassId × FieldType)) (f0 : Nat → va_E) (sz : Nat) (hWT : WT L kd tys f0) (x0_ : Int32) : Met l yX14_isSmall (.code yX14_isSmall cX14_isSmall 1 (some .boolean) :: lw_g) ({ frames := 0, cells := 0, slots := 0, locals := 0 }) (va_Pc [.int x0_] (P3 (dC, dI) L tys f0 sz)) (va_Qi (fun (r : Int32) (f : Nat → va_E) => (r = 0 ∧ True) ∨ (r = 1 ∧ bd 97 122 x0_ ∧ True)) (Q3 (dC, dI) L kd tys [] [] f0 sz) (pA L sz)) 0 0 (pA L sz) := by
  refine Met.ofW (cc := cX14_isSmall) (maxL := 1) (ret := (some .boolean)) (by decide) rfl ?_
  intro p e s m args below meth c s₁ B hml hv
  obtain ⟨rfl, hsz, hP, hK, hD0⟩ := hv
  have hx := B.exec
  have hb := B.bytes
  have hr := B.returns
  have hts := atoms_spec (ws := (.code yX14_isSmall cX14_isSmall 1 (some .boolean) :: lw_g)) B.pre
  have hown : s.vm.findClass RX14 = some m.cls := findClass_of_methodNamed B.named
  have hlocks := B.notSynchronized
  subst hsz
  have g : G3 (dC, dI) L kd tys s f0 [] [] f0 s.heap [] [] := G3.start hP hD0 hWT Fs.nil
  have hl := lv_entry ([.int x0_]) (n := 1) (Nat.le_of_ble_eq_true rfl)
  rw [lg_entry_eq]
  generalize (lg_sl ([.int x0_]) ++ List.replicate (1 - (lg_sl ([.int x0_])).length) Slot.unset).toArray = ls at hl ⊢
  have hl : lv_has ls 1 [(0, .int x0_)] := hl
  refine W_q (fun Q hQ => ?_)
  refine lv_iload_n hx hb dX14_isSmall_0 rfl (lv_at hl 0 rfl) ?_
  refine lv_bipush (v := 97) hx hb dX14_isSmall_1 (by decide) ?_
  have kb_97 : bd 97 97 (97 : Int32) := ⟨by decide, by decide⟩
  refine lv_icmp_lt (tgt := 16) hx hb dX14_isSmall_3 (by decide) (fun c_1 => ?_) (fun c_1 => ?_)
  · have fc_1 := lt_f c_1
    have b_2 : bd (-2147483648) 96 x0_ := ltL fc_1 (bdT x0_) kb_97 (by decide)
    refine lv_iconst (v := 0) hx hb dX14_isSmall_16 (by decide) ?_
    subst hQ
    have kb_0 : bd 0 0 (0 : Int32) := ⟨by decide, by decide⟩
    exact W.zret (v := 0) hx hb hr (nar_z (bd_sub kb_0 (by decide) : bd 0 1 _).1 (bd_sub kb_0 (by decide) : bd 0 1 _).2) (fun t ht hW => ⟨⟨_, _, rfl, Or.inl ⟨rfl, trivial⟩, q3_of g hK ht hW⟩, g.2.2.1.F ht⟩) g.2.2.1.2.2 dX14_isSmall_17
  · have fc_1 := nlt_f c_1
    have b_3 : bd 97 2147483647 x0_ := leR fc_1 kb_97 (bdT x0_) (by decide)
    refine lv_iload_n hx hb dX14_isSmall_6 rfl (lv_at hl 0 rfl) ?_
    refine lv_bipush (v := 122) hx hb dX14_isSmall_7 (by decide) ?_
    have kb_122 : bd 122 122 (122 : Int32) := ⟨by decide, by decide⟩
    refine lv_icmp_gt (tgt := 16) hx hb dX14_isSmall_9 (by decide) (fun c_4 => ?_) (fun c_4 => ?_)
    · have fc_4 := lt_f c_4
      have b_5 : bd 123 2147483647 x0_ := ltR fc_4 kb_122 b_3 (by decide)
      refine lv_iconst (v := 0) hx hb dX14_isSmall_16 (by decide) ?_
      subst hQ
      have kb_0 : bd 0 0 (0 : Int32) := ⟨by decide, by decide⟩
      exact W.zret (v := 0) hx hb hr (nar_z (bd_sub kb_0 (by decide) : bd 0 1 _).1 (bd_sub kb_0 (by decide) : bd 0 1 _).2) (fun t ht hW => ⟨⟨_, _, rfl, Or.inl ⟨rfl, trivial⟩, q3_of g hK ht hW⟩, g.2.2.1.F ht⟩) g.2.2.1.2.2 dX14_isSmall_17
    · have fc_4 := nlt_f c_4
      have b_6 : bd 97 122 x0_ := leL fc_4 b_3 kb_122 (by decide)
      refine lv_iconst (v := 1) hx hb dX14_isSmall_12 (by decide) ?_
      refine lv_goto (tgt := 17) hx hb dX14_isSmall_13 (by decide) ?_
      subst hQ
      have kb_1 : bd 1 1 (1 : Int32) := ⟨by decide, by decide⟩
      exact W.zret (v := 1) hx hb hr (nar_z (bd_sub kb_1 (by decide) : bd 0 1 _).1 (bd_sub kb_1 (by decide) : bd 0 1 _).2) (fun t ht hW => ⟨⟨_, _, rfl, Or.inr (⟨rfl, b_6, trivial⟩), q3_of g hK ht hW⟩, g.2.2.1.F ht⟩) g.2.2.1.2.2 dX14_isSmall_17
set_option maxHeartbeats 4000000 in
set_option maxRecDepth 100000 in
theorem r_X14_isDigit (l : Launch) (dC : Nat → ClassId) (dI : Nat → Nat → Nat) (L : List Nat) (kd : Nat → Nat) (tys : List (ClassId × FieldType)) (f0 : Nat → va_E) (sz : Nat) (hWT : WT L kd tys f0) (x0_ : Int32) : Met l yX14_isDigit (.code yX14_isDigit cX14_isDigit 1 (some .boolean) :: lw_g) ({ frames := 0, cells := 0, slots := 0, locals := 0 }) (va_Pc [.int x0_] (P3 (dC, dI) L tys f0 sz)) (va_Qi (fun (r : Int32) (f : Nat → va_E) => (r = 0 ∧ True) ∨ (r = 1 ∧ bd 48 57 x0_ ∧ True)) (Q3 (dC, dI) L kd tys [] [] f0 sz) (pA L sz)) 0 0 (pA L sz) := by
  refine Met.ofW (cc := cX14_isDigit) (maxL := 1) (ret := (some .boolean)) (by decide) rfl ?_
  intro p e s m args below meth c s₁ B hml hv
  obtain ⟨rfl, hsz, hP, hK, hD0⟩ := hv
  have hx := B.exec
  have hb := B.bytes
  have hr := B.returns
  have hts := atoms_spec (ws := (.code yX14_isDigit cX14_isDigit 1 (some .boolean) :: lw_g)) B.pre
  have hown : s.vm.findClass RX14 = some m.cls := findClass_of_methodNamed B.named
  have hlocks := B.notSynchronized
  subst hsz
  have g : G3 (dC, dI) L kd tys s f0 [] [] f0 s.heap [] [] := G3.start hP hD0 hWT Fs.nil
  have hl := lv_entry ([.int x0_]) (n := 1) (Nat.le_of_ble_eq_true rfl)
  rw [lg_entry_eq]
  generalize (lg_sl ([.int x0_]) ++ List.replicate (1 - (lg_sl ([.int x0_])).length) Slot.unset).toArray = ls at hl ⊢
  have hl : lv_has ls 1 [(0, .int x0_)] := hl
  refine W_q (fun Q hQ => ?_)
  refine lv_iload_n hx hb dX14_isDigit_0 rfl (lv_at hl 0 rfl) ?_
  refine lv_bipush (v := 48) hx hb dX14_isDigit_1 (by decide) ?_
  have kb_48 : bd 48 48 (48 : Int32) := ⟨by decide, by decide⟩
  refine lv_icmp_lt (tgt := 16) hx hb dX14_isDigit_3 (by decide) (fun c_1 => ?_) (fun c_1 => ?_)
  · have fc_1 := lt_f c_1
    have b_2 : bd (-2147483648) 47 x0_ := ltL fc_1 (bdT x0_) kb_48 (by decide)
    refine lv_iconst (v := 0) hx hb dX14_isDigit_16 (by decide) ?_
    subst hQ
    have kb_0 : bd 0 0 (0 : Int32) := ⟨by decide, by decide⟩
    exact W.zret (v := 0) hx hb hr (nar_z (bd_sub kb_0 (by decide) : bd 0 1 _).1 (bd_sub kb_0 (by decide) : bd 0 1 _).2) (fun t ht hW => ⟨⟨_, _, rfl, Or.inl ⟨rfl, trivial⟩, q3_of g hK ht hW⟩, g.2.2.1.F ht⟩) g.2.2.1.2.2 dX14_isDigit_17
  · have fc_1 := nlt_f c_1
    have b_3 : bd 48 2147483647 x0_ := leR fc_1 kb_48 (bdT x0_) (by decide)
    refine lv_iload_n hx hb dX14_isDigit_6 rfl (lv_at hl 0 rfl) ?_
    refine lv_bipush (v := 57) hx hb dX14_isDigit_7 (by decide) ?_
    have kb_57 : bd 57 57 (57 : Int32) := ⟨by decide, by decide⟩
    refine lv_icmp_gt (tgt := 16) hx hb dX14_isDigit_9 (by decide) (fun c_4 => ?_) (fun c_4 => ?_)
    · have fc_4 := lt_f c_4
      have b_5 : bd 58 2147483647 x0_ := ltR fc_4 kb_57 b_3 (by decide)
      refine lv_iconst (v := 0) hx hb dX14_isDigit_16 (by decide) ?_
      subst hQ
      have kb_0 : bd 0 0 (0 : Int32) := ⟨by decide, by decide⟩
      exact W.zret (v := 0) hx hb hr (nar_z (bd_sub kb_0 (by decide) : bd 0 1 _).1 (bd_sub kb_0 (by decide) : bd 0 1 _).2) (fun t ht hW => ⟨⟨_, _, rfl, Or.inl ⟨rfl, trivial⟩, q3_of g hK ht hW⟩, g.2.2.1.F ht⟩) g.2.2.1.2.2 dX14_isDigit_17
    · have fc_4 := nlt_f c_4
      have b_6 : bd 48 57 x0_ := leL fc_4 b_3 kb_57 (by decide)
      refine lv_iconst (v := 1) hx hb dX14_isDigit_12 (by decide) ?_
      refine lv_goto (tgt := 17) hx hb dX14_isDigit_13 (by decide) ?_
      subst hQ
      have kb_1 : bd 1 1 (1 : Int32) := ⟨by decide, by decide⟩
      exact W.zret (v := 1) hx hb hr (nar_z (bd_sub kb_1 (by decide) : bd 0 1 _).1 (bd_sub kb_1 (by decide) : bd 0 1 _).2) (fun t ht hW => ⟨⟨_, _, rfl, Or.inr (⟨rfl, b_6, trivial⟩), q3_of g hK ht hW⟩, g.2.2.1.F ht⟩) g.2.2.1.2.2 dX14_isDigit_17
set_option maxHeartbeats 4000000 in
set_option maxRecDepth 100000 in
theorem r_X14_wrong (l : Launch) (dC : Nat → ClassId) (dI : Nat → Nat → Nat) (L : List Nat) (kd : Nat → Nat) (tys : List (ClassId × FieldType)) (f0 : Nat → va_E) (sz : Nat) (hWT : WT L kd tys f0) (a0_ : Nat) (ma0_ : a0_ ∈ L) (ka0_ : kd a0_ = 14) (x1_ : Int32) (x2_ : Int32) : MetE l yX14_wrong (.code yX14_wrong cX14_wrong 3 none :: lw_g) ({ frames := 0, cells := 0, slots := 0, locals := 0 }) (va_Pc [.ref a0_, .int x1_, .int x2_] (P3 (dC, dI) L tys f0 sz)) (q3E (dC, dI) L kd tys [(14, 14), (14, 15)] [] f0 sz (pRv (fun (f : Nat → va_E) => False)) (fun (f : Nat → va_E) => True)) 0 0 (pA L sz) := by
  refine MetE.ofW (cc := cX14_wrong) (maxL := 3) (ret := none) (by decide) rfl ?_
  intro p e s m args below meth c s₁ B hml hempty hv
  obtain ⟨rfl, hsz, hP, hK, hD0⟩ := hv
  have hx := B.exec
  have hb := B.bytes
  have hr := B.returns
  have hts := atoms_spec (ws := (.code yX14_wrong cX14_wrong 3 none :: lw_g)) B.pre
  have hown : s.vm.findClass RX14 = some m.cls := findClass_of_methodNamed B.named
  have hlocks := B.notSynchronized
  subst hsz
  have g : G3 (dC, dI) L kd tys s f0 [(14, 14), (14, 15)] [] f0 s.heap [] [] := G3.start hP hD0 hWT Fs.nil
  have hl := lv_entry ([.ref a0_, .int x1_, .int x2_]) (n := 3) (Nat.le_of_ble_eq_true rfl)
  rw [lg_entry_eq]
  generalize (lg_sl ([.ref a0_, .int x1_, .int x2_]) ++ List.replicate (3 - (lg_sl ([.ref a0_, .int x1_, .int x2_])).length) Slot.unset).toArray = ls at hl ⊢
  have hl : lv_has ls 3 [(0, .ref a0_), (1, .int x1_), (2, .int x2_)] := hl
  refine W_q (fun Q hQ => ?_)
  refine lv_aload_n hx hb dX14_wrong_0 rfl (lv_at hl 0 rfl) ?_
  refine lv_iload_n hx hb dX14_wrong_1 rfl (lv_at hl 1 rfl) ?_
  refine g_put (C := RX14) (T := TX14) (N := 67) hx hb hts (mc_ inX14) tyX14 tyX14_ok nmX14 hown hK g ma0_ ka0_ (by decide) rfl 14 (by decide) (hts _ (List.mem_cons_of_mem _ t_2160)) (fun _ h9 => h9) rfl rfl (okV_i (bdT x1_)) rfl rfl (by decide) (Or.inr (Or.inl (by decide))) (fx' := []) rfl dX14_wrong_2 (fun f H locs hM_1 g => ?_)
  refine lv_aload_n hx hb dX14_wrong_5 rfl (lv_at hl 0 rfl) ?_
  refine lv_iload_n hx hb dX14_wrong_6 rfl (lv_at hl 2 rfl) ?_
  refine g_put (C := RX14) (T := TX14) (N := 67) hx hb hts (mc_ inX14) tyX14 tyX14_ok nmX14 hown hK g ma0_ ka0_ (by decide) rfl 15 (by decide) (hts _ (List.mem_cons_of_mem _ t_2161)) (fun _ h9 => h9) rfl rfl (okV_i (bdT x2_)) rfl rfl (by decide) (Or.inr (Or.inl (by decide))) (fx' := [(14, 14, a0_, .int x1_)]) rfl dX14_wrong_7 (fun f H locs hM_2 g => ?_)
  refine lv_aload_n hx hb dX14_wrong_10 rfl (lv_at hl 0 rfl) ?_
  refine g_getr (K := 13) (C := RX14) (T := TX14) (N := 67) hx hb hts (mc_ inX14) hown hK g ma0_ ka0_ (by decide) rfl 0 (by decide) rfl (hts _ (List.mem_cons_of_mem _ t_2146)) (fun _ h9 => h9) rfl dX14_wrong_11 (fun a_3 ma_3 ka_3 g => ?_)
  subst hQ
  exact e_athrow hx hb hempty hlocks (fun t ht hW => g_thrE g hK ma_3 ka_3 trivial ht hW) g.2.2.1.2.2 dX14_wrong_14
set_option maxHeartbeats 4000000 in
set_option maxRecDepth 100000 in
theorem r_X14_need (l : Launch) (dC : Nat → ClassId) (dI : Nat → Nat → Nat) (L : List Nat) (kd : Nat → Nat) (tys : List (ClassId × FieldType)) (f0 : Nat → va_E) (sz : Nat) (hWT : WT L kd tys f0) (a0_ : Nat) (ma0_ : a0_ ∈ L) (ka0_ : kd a0_ = 14) (x1_ : Int32) (x2_ : Int32) (x3_ : Int32) : MetE l yX14_need (.code yX14_need cX14_need 4 none :: lw_g) ({ frames := 1, cells := 0, slots := 0, locals := 22 }) (va_Pc [.ref a0_, .int x1_, .int x2_, .int x3_] (P3 (dC, dI) L tys f0 sz)) (q3E (dC, dI) L kd tys [(14, 14), (14, 15)] [] f0 sz (pRv (fun (f : Nat → va_E) => (True))) (fun (f : Nat → va_E) => True)) 0 0 (pA L sz) := by
  refine MetE.ofW (cc := cX14_need) (maxL := 4) (ret := none) (by decide) rfl ?_
  intro p e s m args below meth c s₁ B hml hempty hv
  obtain ⟨rfl, hsz, hP, hK, hD0⟩ := hv
  have hx := B.exec
  have hb := B.bytes
  have hr := B.returns
  have hts := atoms_spec (ws := (.code yX14_need cX14_need 4 none :: lw_g)) B.pre
  have hown : s.vm.findClass RX14 = some m.cls := findClass_of_methodNamed B.named
  have hlocks := B.notSynchronized
  subst hsz
  have g : G3 (dC, dI) L kd tys s f0 [(14, 14), (14, 15)] [] f0 s.heap [] [] := G3.start hP hD0 hWT Fs.nil
  have hl := lv_entry ([.ref a0_, .int x1_, .int x2_, .int x3_]) (n := 4) (Nat.le_of_ble_eq_true rfl)
  rw [lg_entry_eq]
  generalize (lg_sl ([.ref a0_, .int x1_, .int x2_, .int x3_]) ++ List.replicate (4 - (lg_sl ([.ref a0_, .int x1_, .int x2_, .int x3_])).length) Slot.unset).toArray = ls at hl ⊢
  have hl : lv_has ls 4 [(0, .ref a0_), (1, .int x1_), (2, .int x2_), (3, .int x3_)] := hl
  refine W_q (fun Q hQ => ?_)
  refine lv_iload_n hx hb dX14_need_0 rfl (lv_at hl 1 rfl) ?_
  have kb_0 : bd 0 0 (0 : Int32) := ⟨by decide, by decide⟩
  refine lv_if_ne (tgt := 10) hx hb dX14_need_1 (by decide) (fun c_1 => ?_) (fun c_1 => ?_)
  · have fc_1 := neq_f c_1
    subst hQ
    exact W.thenQ (W.vret hx hb hr (fun t ht hW => g_retE g hK ⟨rfl, trivial⟩ ht hW) g.2.2.1.2.2 dX14_need_10) (fun _ => MQ.toE)
  · have fc_1 := eq_f c_1
    have b_2 : bd 0 0 x1_ := eqX fc_1 (bdT x1_) kb_0 (by decide)
    refine lv_aload_n hx hb dX14_need_4 rfl (lv_at hl 0 rfl) ?_
    refine lv_iload_n hx hb dX14_need_5 rfl (lv_at hl 2 rfl) ?_
    refine lv_iload_n hx hb dX14_need_6 rfl (lv_at hl 3 rfl) ?_
    refine g_callEv (As := [.int x2_, .int x3_]) (rest := []) ⟨hx, hb, hml, hown, hts⟩ (r_X14_wrong l dC dI L kd tys f0 s.heap.size g.2.2.2.1 a0_ ma0_ ka0_ x2_ x3_) (cwV 2 hts (gV_ t_2407 t_2409 t_101 t_198 t_2410) rfl rfl rfl (by decide +kernel) ⟨(Nat.le_of_ble_eq_true rfl), (Nat.le_of_ble_eq_true rfl)⟩) (pre3V g hK ma0_ ka0_ (by decide) (q := (RX14, TX14, 67)) rfl) rfl hl.1 rfl (lv_room (Nat.le_of_ble_eq_true rfl)) dX14_need_7 ⟨(Nat.le_of_ble_eq_true rfl), (Nat.le_of_ble_eq_true rfl)⟩ g hK (by decide) (by decide) (fx' := []) rfl (fun xr_3 fr_3 H locs mxr_3 kxr_3 hp hMr_3 g => ?_) (fun fr_3 H locs hp hMr_3 g => ?_)
    · subst hQ
      exact WX.leaves hempty hlocks (fun t ht hW => g_thrE g hK mxr_3 kxr_3 trivial ht hW) g.2.2.1.2.2
    · exact hp.elim
set_option maxHeartbeats 4000000 in
set_option maxRecDepth 100000 in
theorem r_X14_isSign (l : Launch) (dC : Nat → ClassId) (dI : Nat → Nat → Nat) (L : List Nat) (kd : Nat → Nat) (tys : List (ClassId × FieldType)) (f0 : Nat → va_E) (sz : Nat) (hWT : WT L kd tys f0) (a0_ : Nat) (ma0_ : a0_ ∈ L) (ka0_ : kd a0_ = 14) (x1_ : Int32) : Met l yX14_isSign (.code yX14_isSign cX14_isSign 2 (some .boolean) :: lw_g) ({ frames := 0, cells := 0, slots := 0, locals := 0 }) (va_Pc [.ref a0_, .int x1_] (P3 (dC, dI) L tys f0 sz)) (va_Qi (fun (r : Int32) (f : Nat → va_E) => (r = 0 ∧ True) ∨ (r = 1 ∧ ∃ z0_ : Int32, bd 4 4 z0_ ∧ Fs L kd f [(14, 6, a0_, .int z0_)])) (Q3 (dC, dI) L kd tys [] [] f0 sz) (pA L sz)) 0 0 (pA L sz) := by
  refine Met.ofW (cc := cX14_isSign) (maxL := 2) (ret := (some .boolean)) (by decide) rfl ?_
  intro p e s m args below meth c s₁ B hml hv
  obtain ⟨rfl, hsz, hP, hK, hD0⟩ := hv
  have hx := B.exec
  have hb := B.bytes
  have hr := B.returns
  have hts := atoms_spec (ws := (.code yX14_isSign cX14_isSign 2 (some .boolean) :: lw_g)) B.pre
  have hown : s.vm.findClass RX14 = some m.cls := findClass_of_methodNamed B.named
  have hlocks := B.notSynchronized
  subst hsz
  have g : G3 (dC, dI) L kd tys s f0 [] [] f0 s.heap [] [] := G3.start hP hD0 hWT Fs.nil
  have hl := lv_entry ([.ref a0_, .int x1_]) (n := 2) (Nat.le_of_ble_eq_true rfl)
  rw [lg_entry_eq]
  generalize (lg_sl ([.ref a0_, .int x1_]) ++ List.replicate (2 - (lg_sl ([.ref a0_, .int x1_])).length) Slot.unset).toArray = ls at hl ⊢
  have hl : lv_has ls 2 [(0, .ref a0_), (1, .int x1_)] := hl
  refine W_q (fun Q hQ => ?_)
  refine lv_aload_n hx hb dX14_isSign_0 rfl (lv_at hl 0 rfl) ?_
  refine g_geti (C := RX14) (T := TX14) (N := 67) hx hb hts (mc_ inX14) hown hK g ma0_ ka0_ (by decide) rfl 6 (by decide) rfl (hts _ (List.mem_cons_of_mem _ t_2152)) (fun _ h9 => h9) rfl dX14_isSign_1 (fun x_1 bx_1 g => ?_)
  refine lv_iconst (v := 4) hx hb dX14_isSign_4 (by decide) ?_
  have kb_4 : bd 4 4 (4 : Int32) := ⟨by decide, by decide⟩
  refine lv_icmp_ne (tgt := 20) hx hb dX14_isSign_5 (by decide) (fun c_2 => ?_) (fun c_2 => ?_)
  · have fc_2 := neq_f c_2
    refine lv_iconst (v := 0) hx hb dX14_isSign_20 (by decide) ?_
    subst hQ
    have kb_0 : bd 0 0 (0 : Int32) := ⟨by decide, by decide⟩
    exact W.zret (v := 0) hx hb hr (nar_z (bd_sub kb_0 (by decide) : bd 0 1 _).1 (bd_sub kb_0 (by decide) : bd 0 1 _).2) (fun t ht hW => ⟨⟨_, _, rfl, Or.inl ⟨rfl, trivial⟩, q3_of g hK ht hW⟩, g.2.2.1.F ht⟩) g.2.2.1.2.2 dX14_isSign_21
  · have fc_2 := eq_f c_2
    have b_3 : bd 4 4 x_1 := eqX fc_2 bx_1 kb_4 (by decide)
    refine lv_aload_n hx hb dX14_isSign_8 rfl (lv_at hl 0 rfl) ?_
    refine g_geti (C := RX14) (T := TX14) (N := 67) hx hb hts (mc_ inX14) hown hK g ma0_ ka0_ (by decide) rfl 7 (by decide) rfl (hts _ (List.mem_cons_of_mem _ t_2153)) (fun _ h9 => h9) rfl dX14_isSign_9 (fun x_4 bx_4 g => ?_)
    refine lv_iload_n hx hb dX14_isSign_12 rfl (lv_at hl 1 rfl) ?_
    refine lv_icmp_ne (tgt := 20) hx hb dX14_isSign_13 (by decide) (fun c_5 => ?_) (fun c_5 => ?_)
    · have fc_5 := neq_f c_5
      refine lv_iconst (v := 0) hx hb dX14_isSign_20 (by decide) ?_
      subst hQ
      have kb_0 : bd 0 0 (0 : Int32) := ⟨by decide, by decide⟩
      exact W.zret (v := 0) hx hb hr (nar_z (bd_sub kb_0 (by decide) : bd 0 1 _).1 (bd_sub kb_0 (by decide) : bd 0 1 _).2) (fun t ht hW => ⟨⟨_, _, rfl, Or.inl ⟨rfl, trivial⟩, q3_of g hK ht hW⟩, g.2.2.1.F ht⟩) g.2.2.1.2.2 dX14_isSign_21
    · have fc_5 := eq_f c_5
      refine lv_iconst (v := 1) hx hb dX14_isSign_16 (by decide) ?_
      refine lv_goto (tgt := 21) hx hb dX14_isSign_17 (by decide) ?_
      subst hQ
      have kb_1 : bd 1 1 (1 : Int32) := ⟨by decide, by decide⟩
      exact W.zret (v := 1) hx hb hr (nar_z (bd_sub kb_1 (by decide) : bd 0 1 _).1 (bd_sub kb_1 (by decide) : bd 0 1 _).2) (fun t ht hW => ⟨⟨_, _, rfl, Or.inr (⟨rfl, x_1, b_3, (g.fcts [1] rfl)⟩), q3_of g hK ht hW⟩, g.2.2.1.F ht⟩) g.2.2.1.2.2 dX14_isSign_21
set_option maxHeartbeats 4000000 in
set_option maxRecDepth 100000 in
theorem r_X14_isWord (l : Launch) (dC : Nat → ClassId) (dI : Nat → Nat → Nat) (L : List Nat) (kd : Nat → Nat) (tys : List (ClassId × FieldType)) (f0 : Nat → va_E) (sz : Nat) (hWT : WT L kd tys f0) (a0_ : Nat) (ma0_ : a0_ ∈ L) (ka0_ : kd a0_ = 14) (x1_ : Int32) : Met l yX14_isWord (.code yX14_isWord cX14_isWord 2 (some .boolean) :: lw_g) ({ frames := 0, cells := 0, slots := 0, locals := 0 }) (va_Pc [.ref a0_, .int x1_] (P3 (dC, dI) L tys f0 sz)) (va_Qi (fun (r : Int32) (f : Nat → va_E) => (r = 0 ∧ True) ∨ (r = 1 ∧ ∃ z0_ : Int32, bd 2 2 z0_ ∧ Fs L kd f [(14, 6, a0_, .int z0_)])) (Q3 (dC, dI) L kd tys [] [] f0 sz) (pA L sz)) 0 0 (pA L sz) := by
  refine Met.ofW (cc := cX14_isWord) (maxL := 2) (ret := (some .boolean)) (by decide) rfl ?_
  intro p e s m args below meth c s₁ B hml hv
  obtain ⟨rfl, hsz, hP, hK, hD0⟩ := hv
  have hx := B.exec
  have hb := B.bytes
  have hr := B.returns
  have hts := atoms_spec (ws := (.code yX14_isWord cX14_isWord 2 (some .boolean) :: lw_g)) B.pre
  have hown : s.vm.findClass RX14 = some m.cls := findClass_of_methodNamed B.named
  have hlocks := B.notSynchronized
  subst hsz
  have g : G3 (dC, dI) L kd tys s f0 [] [] f0 s.heap [] [] := G3.start hP hD0 hWT Fs.nil
  have hl := lv_entry ([.ref a0_, .int x1_]) (n := 2) (Nat.le_of_ble_eq_true rfl)
  rw [lg_entry_eq]
  generalize (lg_sl ([.ref a0_, .int x1_]) ++ List.replicate (2 - (lg_sl ([.ref a0_, .int x1_])).length) Slot.unset).toArray = ls at hl ⊢
  have hl : lv_has ls 2 [(0, .ref a0_), (1, .int x1_)] := hl
  refine W_q (fun Q hQ => ?_)
  refine lv_aload_n hx hb dX14_isWord_0 rfl (lv_at hl 0 rfl) ?_
  refine g_geti (C := RX14) (T := TX14) (N := 67) hx hb hts (mc_ inX14) hown hK g ma0_ ka0_ (by decide) rfl 6 (by decide) rfl (hts _ (List.mem_cons_of_mem _ t_2152)) (fun _ h9 => h9) rfl dX14_isWord_1 (fun x_1 bx_1 g => ?_)
  refine lv_iconst (v := 2) hx hb dX14_isWord_4 (by decide) ?_
  have kb_2 : bd 2 2 (2 : Int32) := ⟨by decide, by decide⟩
  refine lv_icmp_ne (tgt := 20) hx hb dX14_isWord_5 (by decide) (fun c_2 => ?_) (fun c_2 => ?_)
  · have fc_2 := neq_f c_2
    refine lv_iconst (v := 0) hx hb dX14_isWord_20 (by decide) ?_
    subst hQ
    have kb_0 : bd 0 0 (0 : Int32) := ⟨by decide, by decide⟩
    exact W.zret (v := 0) hx hb hr (nar_z (bd_sub kb_0 (by decide) : bd 0 1 _).1 (bd_sub kb_0 (by decide) : bd 0 1 _).2) (fun t ht hW => ⟨⟨_, _, rfl, Or.inl ⟨rfl, trivial⟩, q3_of g hK ht hW⟩, g.2.2.1.F ht⟩) g.2.2.1.2.2 dX14_isWord_21
  · have fc_2 := eq_f c_2
    have b_3 : bd 2 2 x_1 := eqX fc_2 bx_1 kb_2 (by decide)
    refine lv_aload_n hx hb dX14_isWord_8 rfl (lv_at hl 0 rfl) ?_
    refine g_geti (C := RX14) (T := TX14) (N := 67) hx hb hts (mc_ inX14) hown hK g ma0_ ka0_ (by decide) rfl 7 (by decide) rfl (hts _ (List.mem_cons_of_mem _ t_2153)) (fun _ h9 => h9) rfl dX14_isWord_9 (fun x_4 bx_4 g => ?_)
    refine lv_iload_n hx hb dX14_isWord_12 rfl (lv_at hl 1 rfl) ?_
    refine lv_icmp_ne (tgt := 20) hx hb dX14_isWord_13 (by decide) (fun c_5 => ?_) (fun c_5 => ?_)
    · have fc_5 := neq_f c_5
      refine lv_iconst (v := 0) hx hb dX14_isWord_20 (by decide) ?_
      subst hQ
      have kb_0 : bd 0 0 (0 : Int32) := ⟨by decide, by decide⟩
      exact W.zret (v := 0) hx hb hr (nar_z (bd_sub kb_0 (by decide) : bd 0 1 _).1 (bd_sub kb_0 (by decide) : bd 0 1 _).2) (fun t ht hW => ⟨⟨_, _, rfl, Or.inl ⟨rfl, trivial⟩, q3_of g hK ht hW⟩, g.2.2.1.F ht⟩) g.2.2.1.2.2 dX14_isWord_21
    · have fc_5 := eq_f c_5
      refine lv_iconst (v := 1) hx hb dX14_isWord_16 (by decide) ?_
      refine lv_goto (tgt := 21) hx hb dX14_isWord_17 (by decide) ?_
      subst hQ
      have kb_1 : bd 1 1 (1 : Int32) := ⟨by decide, by decide⟩
      exact W.zret (v := 1) hx hb hr (nar_z (bd_sub kb_1 (by decide) : bd 0 1 _).1 (bd_sub kb_1 (by decide) : bd 0 1 _).2) (fun t ht hW => ⟨⟨_, _, rfl, Or.inr (⟨rfl, x_1, b_3, (g.fcts [1] rfl)⟩), q3_of g hK ht hW⟩, g.2.2.1.F ht⟩) g.2.2.1.2.2 dX14_isWord_21
set_option maxHeartbeats 4000000 in
set_option maxRecDepth 100000 in
theorem r_X14_need_2 (l : Launch) (dC : Nat → ClassId) (dI : Nat → Nat → Nat) (L : List Nat) (kd : Nat → Nat) (tys : List (ClassId × FieldType)) (f0 : Nat → va_E) (sz : Nat) (hWT : WT L kd tys f0) (a0_ : Nat) (ma0_ : a0_ ∈ L) (ka0_ : kd a0_ = 14) (x1_ : Int32) (bx1_ : bd 0 0 x1_) (x2_ : Int32) (x3_ : Int32) : MetE l yX14_need (.code yX14_need cX14_need 4 none :: lw_g) ({ frames := 1, cells := 0, slots := 0, locals := 22 }) (va_Pc [.ref a0_, .int x1_, .int x2_, .int x3_] (P3 (dC, dI) L tys f0 sz)) (q3E (dC, dI) L kd tys [(14, 14), (14, 15)] [] f0 sz (pRv (fun (f : Nat → va_E) => False)) (fun (f : Nat → va_E) => True)) 0 0 (pA L sz) := by
  refine MetE.ofW (cc := cX14_need) (maxL := 4) (ret := none) (by decide) rfl ?_
  intro p e s m args below meth c s₁ B hml hempty hv
  obtain ⟨rfl, hsz, hP, hK, hD0⟩ := hv
  have hx := B.exec
  have hb := B.bytes
  have hr := B.returns
  have hts := atoms_spec (ws := (.code yX14_need cX14_need 4 none :: lw_g)) B.pre
  have hown : s.vm.findClass RX14 = some m.cls := findClass_of_methodNamed B.named
  have hlocks := B.notSynchronized
  subst hsz
  have g : G3 (dC, dI) L kd tys s f0 [(14, 14), (14, 15)] [] f0 s.heap [] [] := G3.start hP hD0 hWT Fs.nil
  have hl := lv_entry ([.ref a0_, .int x1_, .int x2_, .int x3_]) (n := 4) (Nat.le_of_ble_eq_true rfl)
  rw [lg_entry_eq]
  generalize (lg_sl ([.ref a0_, .int x1_, .int x2_, .int x3_]) ++ List.replicate (4 - (lg_sl ([.ref a0_, .int x1_, .int x2_, .int x3_])).length) Slot.unset).toArray = ls at hl ⊢
  have hl : lv_has ls 4 [(0, .ref a0_), (1, .int x1_), (2, .int x2_), (3, .int x3_)] := hl
  refine W_q (fun Q hQ => ?_)
  refine lv_iload_n hx hb dX14_need_0 rfl (lv_at hl 1 rfl) ?_
  have kb_0 : bd 0 0 (0 : Int32) := ⟨by decide, by decide⟩
  refine lv_if_ne (tgt := 10) hx hb dX14_need_1 (by decide) (fun c_1 => ?_) (fun c_1 => ?_)
  · have fc_1 := neq_f c_1
    have b_2 : bd 1 (-1) x1_ := neX fc_1 bx1_ kb_0 (by decide)
    exact bd_no b_2 (by decide)
  · have fc_1 := eq_f c_1
    refine lv_aload_n hx hb dX14_need_4 rfl (lv_at hl 0 rfl) ?_
    refine lv_iload_n hx hb dX14_need_5 rfl (lv_at hl 2 rfl) ?_
    refine lv_iload_n hx hb dX14_need_6 rfl (lv_at hl 3 rfl) ?_
    refine g_callEv (As := [.int x2_, .int x3_]) (rest := []) ⟨hx, hb, hml, hown, hts⟩ (r_X14_wrong l dC dI L kd tys f0 s.heap.size g.2.2.2.1 a0_ ma0_ ka0_ x2_ x3_) (cwV 2 hts (gV_ t_2407 t_2409 t_101 t_198 t_2410) rfl rfl rfl (by decide +kernel) ⟨(Nat.le_of_ble_eq_true rfl), (Nat.le_of_ble_eq_true rfl)⟩) (pre3V g hK ma0_ ka0_ (by decide) (q := (RX14, TX14, 67)) rfl) rfl hl.1 rfl (lv_room (Nat.le_of_ble_eq_true rfl)) dX14_need_7 ⟨(Nat.le_of_ble_eq_true rfl), (Nat.le_of_ble_eq_true rfl)⟩ g hK (by decide) (by decide) (fx' := []) rfl (fun xr_3 fr_3 H locs mxr_3 kxr_3 hp hMr_3 g => ?_) (fun fr_3 H locs hp hMr_3 g => ?_)
    · subst hQ
      exact WX.leaves hempty hlocks (fun t ht hW => g_thrE g hK mxr_3 kxr_3 trivial ht hW) g.2.2.1.2.2
    · exact hp.elim
set_option maxHeartbeats 4000000 in
set_option maxRecDepth 100000 in
theorem r_X14_need_3 (l : Launch) (dC : Nat → ClassId) (dI : Nat → Nat → Nat) (L : List Nat) (kd : Nat → Nat) (tys : List (ClassId × FieldType)) (f0 : Nat → va_E) (sz : Nat) (hWT : WT L kd tys f0) (a0_ : Nat) (ma0_ : a0_ ∈ L) (ka0_ : kd a0_ = 14) (x1_ : Int32) (bx1_ : bd 1 1 x1_) (x2_ : Int32) (x3_ : Int32) : MetE l yX14_need (.code yX14_need cX14_need 4 none :: lw_g) ({ frames := 0, cells := 0, slots := 0, locals := 0 }) (va_Pc [.ref a0_, .int x1_, .int x2_, .int x3_] (P3 (dC, dI) L tys f0 sz)) (q3E (dC, dI) L kd tys [] [] f0 sz (pRv (fun (f : Nat → va_E) => (True))) (fun (f : Nat → va_E) => False)) 0 0 (pA L sz) := by
  refine MetE.ofW (cc := cX14_need) (maxL := 4) (ret := none) (by decide) rfl ?_
  intro p e s m args below meth c s₁ B hml hempty hv
  obtain ⟨rfl, hsz, hP, hK, hD0⟩ := hv
  have hx := B.exec
  have hb := B.bytes
  have hr := B.returns
  have hts := atoms_spec (ws := (.code yX14_need cX14_need 4 none :: lw_g)) B.pre
  have hown : s.vm.findClass RX14 = some m.cls := findClass_of_methodNamed B.named
  have hlocks := B.notSynchronized
  subst hsz
  have g : G3 (dC, dI) L kd tys s f0 [] [] f0 s.heap [] [] := G3.start hP hD0 hWT Fs.nil
  have hl := lv_entry ([.ref a0_, .int x1_, .int x2_, .int x3_]) (n := 4) (Nat.le_of_ble_eq_true rfl)
  rw [lg_entry_eq]
  generalize (lg_sl ([.ref a0_, .int x1_, .int x2_, .int x3_]) ++ List.replicate (4 - (lg_sl ([.ref a0_, .int x1_, .int x2_, .int x3_])).length) Slot.unset).toArray = ls at hl ⊢
  have hl : lv_has ls 4 [(0, .ref a0_), (1, .int x1_), (2, .int x2_), (3, .int x3_)] := hl
  refine W_q (fun Q hQ => ?_)
  refine lv_iload_n hx hb dX14_need_0 rfl (lv_at hl 1 rfl) ?_
  have kb_0 : bd 0 0 (0 : Int32) := ⟨by decide, by decide⟩
  refine lv_if_ne (tgt := 10) hx hb dX14_need_1 (by decide) (fun c_1 => ?_) (fun c_1 => ?_)
  · have fc_1 := neq_f c_1
    subst hQ
    exact W.thenQ (W.vret hx hb hr (fun t ht hW => g_retE g hK ⟨rfl, trivial⟩ ht hW) g.2.2.1.2.2 dX14_need_10) (fun _ => MQ.toE)
  · have fc_1 := eq_f c_1
    have b_2 : bd 1 0 x1_ := eqX fc_1 bx1_ kb_0 (by decide)
    exact bd_no b_2 (by decide)
set_option maxHeartbeats 4000000 in
set_option maxRecDepth 100000 in
theorem r_X14_room (l : Launch) (dC : Nat → ClassId) (dI : Nat → Nat → Nat) (L : List Nat) (kd : Nat → Nat) (tys : List (ClassId × FieldType)) (f0 : Nat → va_E) (sz : Nat) (hWT : WT L kd tys f0) (a0_ : Nat) (ma0_ : a0_ ∈ L) (ka0_ : kd a0_ = 14) : MetE l yX14_room (.code yX14_room cX14_room 1 none :: lw_g) ({ frames := 2, cells := 0, slots := 0, locals := 45 }) (va_Pc [.ref a0_] (P3 (dC, dI) L tys f0 sz)) (q3E (dC, dI) L kd tys [(14, 14), (14, 15)] [] f0 sz (pRv (fun (f : Nat → va_E) => (∃ z0_ : Int32, bd 0 1200 z0_ ∧ Fs L kd f [(14, 10, a0_, .int z0_)]))) (fun (f : Nat → va_E) => True)) 0 0 (pA L sz) := by
  refine MetE.ofW (cc := cX14_room) (maxL := 1) (ret := none) (by decide) rfl ?_
  intro p e s m args below meth c s₁ B hml hempty hv
  obtain ⟨rfl, hsz, hP, hK, hD0⟩ := hv
  have hx := B.exec
  have hb := B.bytes
  have hr := B.returns
  have hts := atoms_spec (ws := (.code yX14_room cX14_room 1 none :: lw_g)) B.pre
  have hown : s.vm.findClass RX14 = some m.cls := findClass_of_methodNamed B.named
  have hlocks := B.notSynchronized
  subst hsz
  have g : G3 (dC, dI) L kd tys s f0 [(14, 14), (14, 15)] [] f0 s.heap [] [] := G3.start hP hD0 hWT Fs.nil
  have hl := lv_entry ([.ref a0_]) (n := 1) (Nat.le_of_ble_eq_true rfl)
  rw [lg_entry_eq]
  generalize (lg_sl ([.ref a0_]) ++ List.replicate (1 - (lg_sl ([.ref a0_])).length) Slot.unset).toArray = ls at hl ⊢
  have hl : lv_has ls 1 [(0, .ref a0_)] := hl
  refine W_q (fun Q hQ => ?_)
  refine lv_aload_n hx hb dX14_room_0 rfl (lv_at hl 0 rfl) ?_
  refine lv_aload_n hx hb dX14_room_1 rfl (lv_at hl 0 rfl) ?_
  refine g_geti (C := RX14) (T := TX14) (N := 67) hx hb hts (mc_ inX14) hown hK g ma0_ ka0_ (by decide) rfl 10 (by decide) rfl (hts _ (List.mem_cons_of_mem _ t_2156)) (fun _ h9 => h9) rfl dX14_room_2 (fun x_1 bx_1 g => ?_)
  refine lv_sipush (v := 1200) hx hb dX14_room_5 (by decide) ?_
  have kb_1200 : bd 1200 1200 (1200 : Int32) := ⟨by decide, by decide⟩
  refine lv_icmp_gt (tgt := 15) hx hb dX14_room_8 (by decide) (fun c_2 => ?_) (fun c_2 => ?_)
  · have fc_2 := lt_f c_2
    have b_3 : bd 1201 1202 x_1 := ltR fc_2 kb_1200 bx_1 (by decide)
    refine lv_iconst (v := 0) hx hb dX14_room_15 (by decide) ?_
    refine lv_iconst (v := 4) hx hb dX14_room_16 (by decide) ?_
    refine lv_aload_n hx hb dX14_room_17 rfl (lv_at hl 0 rfl) ?_
    refine g_geti (C := RX14) (T := TX14) (N := 67) hx hb hts (mc_ inX14) hown hK g ma0_ ka0_ (by decide) rfl 8 (by decide) rfl (hts _ (List.mem_cons_of_mem _ t_2154)) (fun _ h9 => h9) rfl dX14_room_18 (fun x_4 bx_4 g => ?_)
    have kb_0 : bd 0 0 (0 : Int32) := ⟨by decide, by decide⟩
    refine g_callEv (As := [.int 0, .int 4, .int x_4]) (rest := []) ⟨hx, hb, hml, hown, hts⟩ (r_X14_need_2 l dC dI L kd tys f0 s.heap.size g.2.2.2.1 a0_ ma0_ ka0_ 0 kb_0 4 x_4) (cwV 3 hts (gV_ t_2403 t_2405 t_100 t_198 t_2406) rfl rfl rfl (by decide +kernel) ⟨(Nat.le_of_ble_eq_true rfl), (Nat.le_of_ble_eq_true rfl)⟩) (pre3V g hK ma0_ ka0_ (by decide) (q := (RX14, TX14, 67)) rfl) rfl hl.1 rfl (lv_room (Nat.le_of_ble_eq_true rfl)) dX14_room_21 ⟨(Nat.le_of_ble_eq_true rfl), (Nat.le_of_ble_eq_true rfl)⟩ g hK (by decide) (by decide) (fx' := [(14, 8, a0_, .int x_4), (14, 10, a0_, .int x_1)]) rfl (fun xr_5 fr_5 H locs mxr_5 kxr_5 hp hMr_5 g => ?_) (fun fr_5 H locs hp hMr_5 g => ?_)
    · subst hQ
      exact WX.leaves hempty hlocks (fun t ht hW => g_thrE g hK mxr_5 kxr_5 trivial ht hW) g.2.2.1.2.2
    · exact hp.elim
  · have fc_2 := nlt_f c_2
    have b_6 : bd 0 1200 x_1 := leL fc_2 bx_1 kb_1200 (by decide)
    refine lv_iconst (v := 1) hx hb dX14_room_11 (by decide) ?_
    refine lv_goto (tgt := 16) hx hb dX14_room_12 (by decide) ?_
    refine lv_iconst (v := 4) hx hb dX14_room_16 (by decide) ?_
    refine lv_aload_n hx hb dX14_room_17 rfl (lv_at hl 0 rfl) ?_
    refine g_geti (C := RX14) (T := TX14) (N := 67) hx hb hts (mc_ inX14) hown hK g ma0_ ka0_ (by decide) rfl 8 (by decide) rfl (hts _ (List.mem_cons_of_mem _ t_2154)) (fun _ h9 => h9) rfl dX14_room_18 (fun x_7 bx_7 g => ?_)
    have kb_1 : bd 1 1 (1 : Int32) := ⟨by decide, by decide⟩
    refine g_callEv (As := [.int 1, .int 4, .int x_7]) (rest := []) ⟨hx, hb, hml, hown, hts⟩ (r_X14_need_3 l dC dI L kd tys f0 s.heap.size g.2.2.2.1 a0_ ma0_ ka0_ 1 kb_1 4 x_7) (cwV 3 hts (gV_ t_2403 t_2405 t_100 t_198 t_2406) rfl rfl rfl (by decide +kernel) ⟨(Nat.le_of_ble_eq_true rfl), (Nat.le_of_ble_eq_true rfl)⟩) (pre3V g hK ma0_ ka0_ (by decide) (q := (RX14, TX14, 67)) rfl) rfl hl.1 rfl (lv_room (Nat.le_of_ble_eq_true rfl)) dX14_room_21 ⟨(Nat.le_of_ble_eq_true rfl), (Nat.le_of_ble_eq_true rfl)⟩ g hK (by decide) (by decide) (fx' := [(14, 8, a0_, .int x_7), (14, 10, a0_, .int x_1)]) rfl (fun xr_8 fr_8 H locs mxr_8 kxr_8 hp hMr_8 g => ?_) (fun fr_8 H locs hp hMr_8 g => ?_)
    · exact hp.elim
    · subst hQ
      exact W.thenQ (W.vret hx hb hr (fun t ht hW => g_retE g hK ⟨rfl, ⟨x_1, b_6, (g.fcts [1] rfl)⟩⟩ ht hW) g.2.2.1.2.2 dX14_room_24) (fun _ => MQ.toE)
set_option maxHeartbeats 4000000 in
set_option maxRecDepth 100000 in
theorem r_X12_fieldOf (l : Launch) (dC : Nat → ClassId) (dI : Nat → Nat → Nat) (L : List Nat) (kd : Nat → Nat) (tys : List (ClassId × FieldType)) (f0 : Nat → va_E) (sz : Nat) (hWT : WT L kd tys f0) (a0_ : Nat) (ma0_ : a0_ ∈ L) (ka0_ : kd a0_ = 12) (x1_ : Int32) (bx1_ : bd 0 7 x1_) (x2_ : Int64) (x3_ : Int64) : Met l yX12_fieldOf (.code yX12_fieldOf cX12_fieldOf 7 (some .int) :: lw_g) ({ frames := 0, cells := 0, slots := 0, locals := 0 }) (va_Pc [.ref a0_, .int x1_, .long x2_, .long x3_] (P3 (dC, dI) L tys f0 sz)) (va_Qi (fun (r : Int32) (f : Nat → va_E) => (bd (-1) 9 r ∧ True)) (Q3 (dC, dI) L kd tys [] [] f0 sz) (pA L sz)) 0 0 (pA L sz) := by
  refine Met.ofW (cc := cX12_fieldOf) (maxL := 7) (ret := (some .int)) (by decide) rfl ?_
  intro p e s m args below meth c s₁ B hml hv
  obtain ⟨rfl, hsz, hP, hK, hD0⟩ := hv
  have hx := B.exec
  have hb := B.bytes
  have hr := B.returns
  have hts := atoms_spec (ws := (.code yX12_fieldOf cX12_fieldOf 7 (some .int) :: lw_g)) B.pre
  have hown : s.vm.findClass RX12 = some m.cls := findClass_of_methodNamed B.named
  have hlocks := B.notSynchronized
  subst hsz
  have g : G3 (dC, dI) L kd tys s f0 [] [] f0 s.heap [] [] := G3.start hP hD0 hWT Fs.nil
  have hl := lv_entry ([.ref a0_, .int x1_, .long x2_, .long x3_]) (n := 7) (Nat.le_of_ble_eq_true rfl)
  rw [lg_entry_eq]
  generalize (lg_sl ([.ref a0_, .int x1_, .long x2_, .long x3_]) ++ List.replicate (7 - (lg_sl ([.ref a0_, .int x1_, .long x2_, .long x3_])).length) Slot.unset).toArray = ls at hl ⊢
  have hl : lv_has ls 7 [(0, .ref a0_), (1, .int x1_), (2, .long x2_), (4, .long x3_)] := hl
  refine W_q (fun Q hQ => ?_)
  refine lv_iconst (v := 0) hx hb dX12_fieldOf_0 (by decide) ?_
  refine lv_istore (lv' := [(6, .int 0), (0, .ref a0_), (1, .int x1_), (2, .long x2_), (4, .long x3_)]) hx hb dX12_fieldOf_1 hl (by decide) rfl (fun ls hl => ?_)
  have loop_1 : ∀ (n : Nat) (v3_6 : Int32), bd 0 10 v3_6 → (10 - v3_6.toInt < (n : Int)) → ∀ (f : Nat → va_E) (H : Heap) (locs : List Loc) (ls : Array Slot), G3 (dC, dI) L kd tys s f0 [] [] f H locs [] → lv_has ls 7 [(6, .int v3_6), (0, .ref a0_), (1, .int x1_), (2, .long x2_), (4, .long x3_)] → W p l e ({ frames := 0, cells := 0, slots := 0, locals := 0 } : Room) s m [.ref a0_, .int x1_, .long x2_, .long x3_].toArray below meth c H locs 0 0 Q (F0 m 3 ls []) := by
    intro n3
    induction n3 with
    | zero =>
      intro v3_6 bv3_6 hm3 f H locs ls g  hl
      exact absurd hm3 (by have h9_v3_6 := bv3_6; unfold bd at h9_v3_6; omega)
    | succ n3 ih3 =>
      intro v3_6 bv3_6 hm3 f H locs ls g  hl
      refine lv_iload hx hb dX12_fieldOf_3 (lv_at hl 0 rfl) ?_
      refine lv_aload_n hx hb dX12_fieldOf_5 rfl (lv_at hl 1 rfl) ?_
      refine g_getr (K := 160) (C := RX12) (T := TX12) (N := 60) hx hb hts (mc_ inX12) hown hK g ma0_ ka0_ (by decide) rfl 4 (by decide) rfl (hts _ (List.mem_cons_of_mem _ t_1913)) (fun _ h9 => h9) rfl dX12_fieldOf_6 (fun a_2 ma_2 ka_2 g => ?_)
      refine lv_iload_n hx hb dX12_fieldOf_9 rfl (lv_at hl 2 rfl) ?_
      refine g_iald hx hb hK g ma_2 ka_2 (by decide) rfl (in_bd bx1_ (by decide)) dX12_fieldOf_10 (fun x_3 bx_3 cx_3 => ?_)
      refine lv_icmp_ge (tgt := 58) hx hb dX12_fieldOf_11 (by decide) (fun c_4 => ?_) (fun c_4 => ?_)
      · have fc_4 := le_f c_4
        refine lv_iconst (v := (-1)) hx hb dX12_fieldOf_58 (by decide) ?_
        have kb_m1 : bd (-1) (-1) ((-1) : Int32) := ⟨by decide, by decide⟩
        subst hQ
        exact W.iret (v := (-1)) hx hb hr (fun t ht hW => ⟨⟨_, _, rfl, ⟨(bd_sub kb_m1 (by decide)), trivial⟩, q3_of g hK ht hW⟩, g.2.2.1.F ht⟩) g.2.2.1.2.2 dX12_fieldOf_59
      · have fc_4 := nle_f c_4
        have b_5 : bd 0 9 v3_6 := ltL fc_4 bv3_6 bx_3 (by decide)
        have b_6 : bd 1 10 x_3 := ltR fc_4 bv3_6 bx_3 (by decide)
        refine lv_aload_n hx hb dX12_fieldOf_14 rfl (lv_at hl 1 rfl) ?_
        refine g_getr (K := 162) (C := RX12) (T := TX12) (N := 60) hx hb hts (mc_ inX12) hown hK g ma0_ ka0_ (by decide) rfl 6 (by decide) rfl (hts _ (List.mem_cons_of_mem _ t_1917)) (fun _ h9 => h9) rfl dX12_fieldOf_15 (fun a_7 ma_7 ka_7 g => ?_)
        refine lv_bipush (v := 10) hx hb dX12_fieldOf_18 (by decide) ?_
        refine lv_iload_n hx hb dX12_fieldOf_20 rfl (lv_at hl 2 rfl) ?_
        refine lv_imul hx hb dX12_fieldOf_21 ?_
        refine lv_topi (fun y_8 ey_8 => ?_)
        have ty_8 := cmul_bd ey_8 (c := 10) (by decide) bx1_ (by decide)
        have b_9 : bd 0 70 y_8 := mulc_rg ty_8 bx1_ (by decide)
        refine lv_iload hx hb dX12_fieldOf_22 (lv_at hl 0 rfl) ?_
        refine lv_iadd hx hb dX12_fieldOf_24 ?_
        refine lv_topi (fun y_10 ey_10 => ?_)
        have ty_10 := add_bd ey_10 b_9 b_5 (by decide)
        have b_11 : bd 0 79 y_10 := add_rg ty_10 b_9 b_5 (by decide)
        refine g_lald hx hb hK g ma_7 ka_7 (by decide) rfl (in_bd b_11 (by decide)) dX12_fieldOf_25 (fun x_12 => ?_)
        refine lv_lload_n hx hb dX12_fieldOf_26 rfl (lv_at hl 3 rfl) ?_
        refine W.lcmp hx hb dX12_fieldOf_27 ?_
        refine lv_if_ne (tgt := 52) hx hb dX12_fieldOf_28 (by decide) (fun c_13 => ?_) (fun c_13 => ?_)
        · have kb_1 : bd 1 1 (1 : Int32) := ⟨by decide, by decide⟩
          obtain ⟨y_14, ey_14⟩ : ∃ z : Int32, z = v3_6 + 1 := ⟨_, rfl⟩
          refine lv_iinc (v := y_14) (lv' := [(6, .int y_14), (0, .ref a0_), (1, .int x1_), (2, .long x2_), (4, .long x3_)]) hx hb dX12_fieldOf_52 hl (k := 0) rfl (by rw [ey_14]; rfl) (by decide) rfl (fun ls hl => ?_)
          have ty_14 := add_bd ey_14 b_5 kb_1 (by decide)
          have b_15 : bd 1 10 y_14 := add_rg ty_14 b_5 kb_1 (by decide)
          refine lv_goto (tgt := 3) hx hb dX12_fieldOf_55 (by decide) ?_
          have hl9 := lv_sub hl [0, 1, 2, 3, 4] (by rfl : lv_pick [(6, .int y_14), (0, .ref a0_), (1, .int x1_), (2, .long x2_), (4, .long x3_)] [0, 1, 2, 3, 4] = [(6, .int y_14), (0, .ref a0_), (1, .int x1_), (2, .long x2_), (4, .long x3_)])
          have g9 := g.sub (fx' := []) [] rfl
          exact ih3  y_14 (bd_sub b_15 (by decide)) (by have h9_0 := b_15; unfold bd at h9_0; have h9_1 := bv3_6; unfold bd at h9_1; have h9_2 := kb_1; unfold bd at h9_2; omega) _ _ _ _ g9  hl9
        · refine lv_aload_n hx hb dX12_fieldOf_31 rfl (lv_at hl 1 rfl) ?_
          refine g_getr (K := 163) (C := RX12) (T := TX12) (N := 60) hx hb hts (mc_ inX12) hown hK g ma0_ ka0_ (by decide) rfl 7 (by decide) rfl (hts _ (List.mem_cons_of_mem _ t_1919)) (fun _ h9 => h9) rfl dX12_fieldOf_32 (fun a_16 ma_16 ka_16 g => ?_)
          refine lv_bipush (v := 10) hx hb dX12_fieldOf_35 (by decide) ?_
          refine lv_iload_n hx hb dX12_fieldOf_37 rfl (lv_at hl 2 rfl) ?_
          refine lv_imul hx hb dX12_fieldOf_38 ?_
          refine lv_topi (fun y_17 ey_17 => ?_)
          obtain rfl : y_8 = y_17 := ey_8.trans ey_17.symm
          refine lv_iload hx hb dX12_fieldOf_39 (lv_at hl 0 rfl) ?_
          refine lv_iadd hx hb dX12_fieldOf_41 ?_
          refine lv_topi (fun y_18 ey_18 => ?_)
          obtain rfl : y_10 = y_18 := ey_10.trans ey_18.symm
          refine g_lald hx hb hK g ma_16 ka_16 (by decide) rfl (in_bd b_11 (by decide)) dX12_fieldOf_42 (fun x_19 => ?_)
          refine lv_lload hx hb dX12_fieldOf_43 (lv_at hl 4 rfl) ?_
          refine W.lcmp hx hb dX12_fieldOf_45 ?_
          refine lv_if_ne (tgt := 52) hx hb dX12_fieldOf_46 (by decide) (fun c_20 => ?_) (fun c_20 => ?_)
          · have kb_1 : bd 1 1 (1 : Int32) := ⟨by decide, by decide⟩
            obtain ⟨y_21, ey_21⟩ : ∃ z : Int32, z = v3_6 + 1 := ⟨_, rfl⟩
            refine lv_iinc (v := y_21) (lv' := [(6, .int y_21), (0, .ref a0_), (1, .int x1_), (2, .long x2_), (4, .long x3_)]) hx hb dX12_fieldOf_52 hl (k := 0) rfl (by rw [ey_21]; rfl) (by decide) rfl (fun ls hl => ?_)
            have ty_21 := add_bd ey_21 b_5 kb_1 (by decide)
            have b_22 : bd 1 10 y_21 := add_rg ty_21 b_5 kb_1 (by decide)
            refine lv_goto (tgt := 3) hx hb dX12_fieldOf_55 (by decide) ?_
            have hl9 := lv_sub hl [0, 1, 2, 3, 4] (by rfl : lv_pick [(6, .int y_21), (0, .ref a0_), (1, .int x1_), (2, .long x2_), (4, .long x3_)] [0, 1, 2, 3, 4] = [(6, .int y_21), (0, .ref a0_), (1, .int x1_), (2, .long x2_), (4, .long x3_)])
            have g9 := g.sub (fx' := []) [] rfl
            exact ih3  y_21 (bd_sub b_22 (by decide)) (by have h9_0 := b_22; unfold bd at h9_0; have h9_1 := bv3_6; unfold bd at h9_1; have h9_2 := kb_1; unfold bd at h9_2; omega) _ _ _ _ g9  hl9
          · refine lv_iload hx hb dX12_fieldOf_49 (lv_at hl 0 rfl) ?_
            subst hQ
            exact W.iret (v := v3_6) hx hb hr (fun t ht hW => ⟨⟨_, _, rfl, ⟨(bd_sub b_5 (by decide)), trivial⟩, q3_of g hK ht hW⟩, g.2.2.1.F ht⟩) g.2.2.1.2.2 dX12_fieldOf_51
  have kb_0 : bd 0 0 (0 : Int32) := ⟨by decide, by decide⟩
  have hl9 := lv_sub hl [0, 1, 2, 3, 4] (by rfl : lv_pick [(6, .int 0), (0, .ref a0_), (1, .int x1_), (2, .long x2_), (4, .long x3_)] [0, 1, 2, 3, 4] = [(6, .int 0), (0, .ref a0_), (1, .int x1_), (2, .long x2_), (4, .long x3_)])
  have g9 := g.sub (fx' := []) [] rfl
  exact loop_1 (23) 0 (bd_sub kb_0 (by decide)) (by have h9_0 := kb_0; unfold bd at h9_0; omega) _ _ _ _ g9  hl9
set_option maxHeartbeats 4000000 in
set_option maxRecDepth 100000 in
theorem r_X14_named (l : Launch) (dC : Nat → ClassId) (dI : Nat → Nat → Nat) (L : List Nat) (kd : Nat → Nat) (tys : List (ClassId × FieldType)) (f0 : Nat → va_E) (sz : Nat) (hWT : WT L kd tys f0) (a0_ : Nat) (ma0_ : a0_ ∈ L) (ka0_ : kd a0_ = 14) (x1_ : Int64) (x2_ : Int64) : Met l yX14_named (.code yX14_named cX14_named 6 (some .int) :: lw_g) ({ frames := 1, cells := 0, slots := 0, locals := 26 }) (va_Pc [.ref a0_, .long x1_, .long x2_] (P3 (dC, dI) L tys f0 sz)) (va_Qi (fun (r : Int32) (f : Nat → va_E) => (bd (-1) 2010 r ∧ True)) (Q3 (dC, dI) L kd tys [] [] f0 sz) (pA L sz)) 0 0 (pA L sz) := by
  refine Met.ofW (cc := cX14_named) (maxL := 6) (ret := (some .int)) (by decide) rfl ?_
  intro p e s m args below meth c s₁ B hml hv
  obtain ⟨rfl, hsz, hP, hK, hD0⟩ := hv
  have hx := B.exec
  have hb := B.bytes
  have hr := B.returns
  have hts := atoms_spec (ws := (.code yX14_named cX14_named 6 (some .int) :: lw_g)) B.pre
  have hown : s.vm.findClass RX14 = some m.cls := findClass_of_methodNamed B.named
  have hlocks := B.notSynchronized
  subst hsz
  have g : G3 (dC, dI) L kd tys s f0 [] [] f0 s.heap [] [] := G3.start hP hD0 hWT Fs.nil
  have hl := lv_entry ([.ref a0_, .long x1_, .long x2_]) (n := 6) (Nat.le_of_ble_eq_true rfl)
  rw [lg_entry_eq]
  generalize (lg_sl ([.ref a0_, .long x1_, .long x2_]) ++ List.replicate (6 - (lg_sl ([.ref a0_, .long x1_, .long x2_])).length) Slot.unset).toArray = ls at hl ⊢
  have hl : lv_has ls 6 [(0, .ref a0_), (1, .long x1_), (3, .long x2_)] := hl
  refine W_q (fun Q hQ => ?_)
  refine lv_aload_n hx hb dX14_named_0 rfl (lv_at hl 0 rfl) ?_
  refine g_geti (C := RX14) (T := TX14) (N := 67) hx hb hts (mc_ inX14) hown hK g ma0_ ka0_ (by decide) rfl 24 (by decide) rfl (hts _ (List.mem_cons_of_mem _ t_2170)) (fun _ h9 => h9) rfl dX14_named_1 (fun x_1 bx_1 g => ?_)
  have kb_0 : bd 0 0 (0 : Int32) := ⟨by decide, by decide⟩
  refine lv_if_ne (tgt := 84) hx hb dX14_named_4 (by decide) (fun c_2 => ?_) (fun c_2 => ?_)
  · have fc_2 := neq_f c_2
    have b_3 : bd 1 1 x_1 := neX fc_2 bx_1 kb_0 (by decide)
    refine lv_aload_n hx hb dX14_named_84 rfl (lv_at hl 0 rfl) ?_
    refine g_getr (K := 12) (C := RX14) (T := TX14) (N := 67) hx hb hts (mc_ inX14) hown hK g ma0_ ka0_ (by decide) rfl 2 (by decide) rfl (hts _ (List.mem_cons_of_mem _ t_2148)) (fun _ h9 => h9) rfl dX14_named_85 (fun a_4 ma_4 ka_4 g => ?_)
    refine lv_aload_n hx hb dX14_named_88 rfl (lv_at hl 0 rfl) ?_
    refine g_geti (C := RX14) (T := TX14) (N := 67) hx hb hts (mc_ inX14) hown hK g ma0_ ka0_ (by decide) rfl 16 (by decide) rfl (hts _ (List.mem_cons_of_mem _ t_2162)) (fun _ h9 => h9) rfl dX14_named_89 (fun x_5 bx_5 g => ?_)
    refine lv_lload_n hx hb dX14_named_92 rfl (lv_at hl 1 rfl) ?_
    refine lv_lload_n hx hb dX14_named_93 rfl (lv_at hl 2 rfl) ?_
    refine g_calli (va_runV (As := [.int x_5, .long x1_, .long x2_]) (rest := []) ⟨hx, hb, hml, hown, hts⟩ (r_X12_fieldOf l dC dI L kd tys f0 s.heap.size g.2.2.2.1 a_4 ma_4 ka_4 x_5 bx_5 x1_ x2_) (cwV 3 hts (gV_ t_2443 t_2444 t_2445 t_203 t_2446) rfl rfl rfl (by decide +kernel) ⟨(Nat.le_of_ble_eq_true rfl), (Nat.le_of_ble_eq_true rfl)⟩) (pre3V g hK ma_4 ka_4 (by decide) (q := (RX12, TX12, 60)) rfl) rfl rfl hl.1 rfl (lv_room (Nat.le_of_ble_eq_true rfl)) dX14_named_94 ⟨(Nat.le_of_ble_eq_true rfl), (Nat.le_of_ble_eq_true rfl)⟩) g hK (by decide) (by decide) (fx' := [(14, 16, a0_, .int x_5), (14, 2, a0_, .ref a_4), (14, 24, a0_, .int x_1)]) rfl (fun r_6 fr_6 H locs hp hMr_6 g => ?_)
    obtain ⟨h_7, -⟩ := hp
    subst hQ
    exact W.iret (v := r_6) hx hb hr (fun t ht hW => ⟨⟨_, _, rfl, ⟨(bd_sub h_7 (by decide)), trivial⟩, q3_of g hK ht hW⟩, g.2.2.1.F ht⟩) g.2.2.1.2.2 dX14_named_97
  · have fc_2 := eq_f c_2
    have b_8 : bd 0 0 x_1 := eqX fc_2 bx_1 kb_0 (by decide)
    refine lv_iconst (v := 0) hx hb dX14_named_7 (by decide) ?_
    refine lv_istore (lv' := [(5, .int 0), (0, .ref a0_), (1, .long x1_), (3, .long x2_)]) hx hb dX14_named_8 hl (by decide) rfl (fun ls hl => ?_)
    have loop_9 : ∀ (n : Nat) (v10_5 : Int32), bd 0 11 v10_5 → (11 - v10_5.toInt < (n : Int)) → ∀ (f : Nat → va_E) (H : Heap) (locs : List Loc) (ls : Array Slot), G3 (dC, dI) L kd tys s f0 [] [] f H locs [(14, 24, a0_, .int x_1)] → lv_has ls 6 [(5, .int v10_5), (0, .ref a0_), (1, .long x1_), (3, .long x2_)] → W p l e ({ frames := 1, cells := 0, slots := 0, locals := 26 } : Room) s m [.ref a0_, .long x1_, .long x2_].toArray below meth c H locs 0 0 Q (F0 m 10 ls []) := by
      intro n10
      induction n10 with
      | zero =>
        intro v10_5 bv10_5 hm10 f H locs ls g  hl
        exact absurd hm10 (by have h9_v10_5 := bv10_5; unfold bd at h9_v10_5; omega)
      | succ n10 ih10 =>
        intro v10_5 bv10_5 hm10 f H locs ls g  hl
        refine lv_iload hx hb dX14_named_10 (lv_at hl 0 rfl) ?_
        refine lv_aload_n hx hb dX14_named_12 rfl (lv_at hl 1 rfl) ?_
        refine g_geti (C := RX14) (T := TX14) (N := 67) hx hb hts (mc_ inX14) hown hK g ma0_ ka0_ (by decide) rfl 20 (by decide) rfl (hts _ (List.mem_cons_of_mem _ t_2166)) (fun _ h9 => h9) rfl dX14_named_13 (fun x_10 bx_10 g => ?_)
        refine lv_aload_n hx hb dX14_named_16 rfl (lv_at hl 1 rfl) ?_
        refine g_geti (C := RX14) (T := TX14) (N := 67) hx hb hts (mc_ inX14) hown hK g ma0_ ka0_ (by decide) rfl 21 (by decide) rfl (hts _ (List.mem_cons_of_mem _ t_2167)) (fun _ h9 => h9) rfl dX14_named_17 (fun x_11 bx_11 g => ?_)
        refine lv_iadd hx hb dX14_named_20 ?_
        refine lv_topi (fun y_12 ey_12 => ?_)
        have ty_12 := add_bd ey_12 bx_10 bx_11 (by decide)
        have b_13 : bd 0 11 y_12 := add_rg ty_12 bx_10 bx_11 (by decide)
        refine lv_icmp_ge (tgt := 84) hx hb dX14_named_21 (by decide) (fun c_14 => ?_) (fun c_14 => ?_)
        · have fc_14 := le_f c_14
          refine lv_aload_n hx hb dX14_named_84 rfl (lv_at hl 1 rfl) ?_
          refine g_getr (K := 12) (C := RX14) (T := TX14) (N := 67) hx hb hts (mc_ inX14) hown hK g ma0_ ka0_ (by decide) rfl 2 (by decide) rfl (hts _ (List.mem_cons_of_mem _ t_2148)) (fun _ h9 => h9) rfl dX14_named_85 (fun a_15 ma_15 ka_15 g => ?_)
          refine lv_aload_n hx hb dX14_named_88 rfl (lv_at hl 1 rfl) ?_
          refine g_geti (C := RX14) (T := TX14) (N := 67) hx hb hts (mc_ inX14) hown hK g ma0_ ka0_ (by decide) rfl 16 (by decide) rfl (hts _ (List.mem_cons_of_mem _ t_2162)) (fun _ h9 => h9) rfl dX14_named_89 (fun x_16 bx_16 g => ?_)
          refine lv_lload_n hx hb dX14_named_92 rfl (lv_at hl 2 rfl) ?_
          refine lv_lload_n hx hb dX14_named_93 rfl (lv_at hl 3 rfl) ?_
          refine g_calli (va_runV (As := [.int x_16, .long x1_, .long x2_]) (rest := []) ⟨hx, hb, hml, hown, hts⟩ (r_X12_fieldOf l dC dI L kd tys f H.size g.2.2.2.1 a_15 ma_15 ka_15 x_16 bx_16 x1_ x2_) (cwV 3 hts (gV_ t_2443 t_2444 t_2445 t_203 t_2446) rfl rfl rfl (by decide +kernel) ⟨(Nat.le_of_ble_eq_true rfl), (Nat.le_of_ble_eq_true rfl)⟩) (pre3V g hK ma_15 ka_15 (by decide) (q := (RX12, TX12, 60)) rfl) rfl rfl hl.1 rfl (lv_room (Nat.le_of_ble_eq_true rfl)) dX14_named_94 ⟨(Nat.le_of_ble_eq_true rfl), (Nat.le_of_ble_eq_true rfl)⟩) g hK (by decide) (by decide) (fx' := [(14, 16, a0_, .int x_16), (14, 2, a0_, .ref a_15), (14, 21, a0_, .int x_11), (14, 20, a0_, .int x_10), (14, 24, a0_, .int x_1)]) rfl (fun r_17 fr_17 H locs hp hMr_17 g => ?_)
          obtain ⟨h_18, -⟩ := hp
          subst hQ
          exact W.iret (v := r_17) hx hb hr (fun t ht hW => ⟨⟨_, _, rfl, ⟨(bd_sub h_18 (by decide)), trivial⟩, q3_of g hK ht hW⟩, g.2.2.1.F ht⟩) g.2.2.1.2.2 dX14_named_97
        · have fc_14 := nle_f c_14
          have b_19 : bd 0 10 v10_5 := ltL fc_14 bv10_5 b_13 (by decide)
          have b_20 : bd 1 11 y_12 := ltR fc_14 bv10_5 b_13 (by decide)
          refine lv_aload_n hx hb dX14_named_24 rfl (lv_at hl 1 rfl) ?_
          refine g_getr (K := 213) (C := RX14) (T := TX14) (N := 67) hx hb hts (mc_ inX14) hown hK g ma0_ ka0_ (by decide) rfl 18 (by decide) rfl (hts _ (List.mem_cons_of_mem _ t_2164)) (fun _ h9 => h9) rfl dX14_named_25 (fun a_21 ma_21 ka_21 g => ?_)
          refine lv_iload hx hb dX14_named_28 (lv_at hl 0 rfl) ?_
          refine g_lald hx hb hK g ma_21 ka_21 (by decide) rfl (in_bd b_19 (by decide)) dX14_named_30 (fun x_22 => ?_)
          refine lv_lload_n hx hb dX14_named_31 rfl (lv_at hl 2 rfl) ?_
          refine W.lcmp hx hb dX14_named_32 ?_
          refine lv_if_ne (tgt := 78) hx hb dX14_named_33 (by decide) (fun c_23 => ?_) (fun c_23 => ?_)
          · have kb_1 : bd 1 1 (1 : Int32) := ⟨by decide, by decide⟩
            obtain ⟨y_24, ey_24⟩ : ∃ z : Int32, z = v10_5 + 1 := ⟨_, rfl⟩
            refine lv_iinc (v := y_24) (lv' := [(5, .int y_24), (0, .ref a0_), (1, .long x1_), (3, .long x2_)]) hx hb dX14_named_78 hl (k := 0) rfl (by rw [ey_24]; rfl) (by decide) rfl (fun ls hl => ?_)
            have ty_24 := add_bd ey_24 b_19 kb_1 (by decide)
            have b_25 : bd 1 11 y_24 := add_rg ty_24 b_19 kb_1 (by decide)
            refine lv_goto (tgt := 10) hx hb dX14_named_81 (by decide) ?_
            have hl9 := lv_sub hl [0, 1, 2, 3] (by rfl : lv_pick [(5, .int y_24), (0, .ref a0_), (1, .long x1_), (3, .long x2_)] [0, 1, 2, 3] = [(5, .int y_24), (0, .ref a0_), (1, .long x1_), (3, .long x2_)])
            have g9 := g.sub (fx' := [(14, 24, a0_, .int x_1)]) [3] rfl
            exact ih10  y_24 (bd_sub b_25 (by decide)) (by have h9_0 := b_25; unfold bd at h9_0; have h9_1 := bv10_5; unfold bd at h9_1; have h9_2 := kb_0; unfold bd at h9_2; have h9_3 := kb_1; unfold bd at h9_3; omega) _ _ _ _ g9  hl9
          · refine lv_aload_n hx hb dX14_named_36 rfl (lv_at hl 1 rfl) ?_
            refine g_getr (K := 214) (C := RX14) (T := TX14) (N := 67) hx hb hts (mc_ inX14) hown hK g ma0_ ka0_ (by decide) rfl 19 (by decide) rfl (hts _ (List.mem_cons_of_mem _ t_2165)) (fun _ h9 => h9) rfl dX14_named_37 (fun a_26 ma_26 ka_26 g => ?_)
            refine lv_iload hx hb dX14_named_40 (lv_at hl 0 rfl) ?_
            refine g_lald hx hb hK g ma_26 ka_26 (by decide) rfl (in_bd b_19 (by decide)) dX14_named_42 (fun x_27 => ?_)
            refine lv_lload_n hx hb dX14_named_43 rfl (lv_at hl 3 rfl) ?_
            refine W.lcmp hx hb dX14_named_44 ?_
            refine lv_if_ne (tgt := 78) hx hb dX14_named_45 (by decide) (fun c_28 => ?_) (fun c_28 => ?_)
            · have kb_1 : bd 1 1 (1 : Int32) := ⟨by decide, by decide⟩
              obtain ⟨y_29, ey_29⟩ : ∃ z : Int32, z = v10_5 + 1 := ⟨_, rfl⟩
              refine lv_iinc (v := y_29) (lv' := [(5, .int y_29), (0, .ref a0_), (1, .long x1_), (3, .long x2_)]) hx hb dX14_named_78 hl (k := 0) rfl (by rw [ey_29]; rfl) (by decide) rfl (fun ls hl => ?_)
              have ty_29 := add_bd ey_29 b_19 kb_1 (by decide)
              have b_30 : bd 1 11 y_29 := add_rg ty_29 b_19 kb_1 (by decide)
              refine lv_goto (tgt := 10) hx hb dX14_named_81 (by decide) ?_
              have hl9 := lv_sub hl [0, 1, 2, 3] (by rfl : lv_pick [(5, .int y_29), (0, .ref a0_), (1, .long x1_), (3, .long x2_)] [0, 1, 2, 3] = [(5, .int y_29), (0, .ref a0_), (1, .long x1_), (3, .long x2_)])
              have g9 := g.sub (fx' := [(14, 24, a0_, .int x_1)]) [4] rfl
              exact ih10  y_29 (bd_sub b_30 (by decide)) (by have h9_0 := b_30; unfold bd at h9_0; have h9_1 := bv10_5; unfold bd at h9_1; have h9_2 := kb_0; unfold bd at h9_2; have h9_3 := kb_1; unfold bd at h9_3; omega) _ _ _ _ g9  hl9
            · refine lv_iload hx hb dX14_named_48 (lv_at hl 0 rfl) ?_
              refine lv_aload_n hx hb dX14_named_50 rfl (lv_at hl 1 rfl) ?_
              refine g_getk (C := RX14) (T := TX14) (N := 67) hx hb hts (mc_ inX14) hown hK g rfl 20 (by decide) rfl (hts _ (List.mem_cons_of_mem _ t_2166)) (fun _ h9 => h9) 3 rfl dX14_named_51 ?_
              refine lv_icmp_ge (tgt := 66) hx hb dX14_named_54 (by decide) (fun c_31 => ?_) (fun c_31 => ?_)
              · have fc_31 := le_f c_31
                refine lv_sipush (v := 2000) hx hb dX14_named_66 (by decide) ?_
                refine lv_iload hx hb dX14_named_69 (lv_at hl 0 rfl) ?_
                have kb_2000 : bd 2000 2000 (2000 : Int32) := ⟨by decide, by decide⟩
                refine lv_iadd hx hb dX14_named_71 ?_
                refine lv_topi (fun y_32 ey_32 => ?_)
                have ty_32 := add_bd ey_32 kb_2000 b_19 (by decide)
                have b_33 : bd 2000 2010 y_32 := add_rg ty_32 kb_2000 b_19 (by decide)
                refine lv_aload_n hx hb dX14_named_72 rfl (lv_at hl 1 rfl) ?_
                refine g_getk (C := RX14) (T := TX14) (N := 67) hx hb hts (mc_ inX14) hown hK g rfl 20 (by decide) rfl (hts _ (List.mem_cons_of_mem _ t_2166)) (fun _ h9 => h9) 3 rfl dX14_named_73 ?_
                refine lv_isub hx hb dX14_named_76 ?_
                refine lv_topi (fun y_34 ey_34 => ?_)
                have ty_34 := sub_bd ey_34 b_33 bx_10 (by decide)
                have b_35 : bd 1997 2010 y_34 := sub_rg ty_34 b_33 bx_10 (by decide)
                subst hQ
                exact W.iret (v := y_34) hx hb hr (fun t ht hW => ⟨⟨_, _, rfl, ⟨(bd_sub b_35 (by decide)), trivial⟩, q3_of g hK ht hW⟩, g.2.2.1.F ht⟩) g.2.2.1.2.2 dX14_named_77
              · have fc_31 := nle_f c_31
                have b_36 : bd 0 2 v10_5 := ltL fc_31 b_19 bx_10 (by decide)
                have b_37 : bd 1 3 x_10 := ltR fc_31 b_19 bx_10 (by decide)
                refine lv_sipush (v := 1000) hx hb dX14_named_57 (by decide) ?_
                refine lv_iload hx hb dX14_named_60 (lv_at hl 0 rfl) ?_
                have kb_1000 : bd 1000 1000 (1000 : Int32) := ⟨by decide, by decide⟩
                refine lv_iadd hx hb dX14_named_62 ?_
                refine lv_topi (fun y_38 ey_38 => ?_)
                have ty_38 := add_bd ey_38 kb_1000 b_36 (by decide)
                have b_39 : bd 1000 1002 y_38 := add_rg ty_38 kb_1000 b_36 (by decide)
                refine lv_goto (tgt := 77) hx hb dX14_named_63 (by decide) ?_
                subst hQ
                exact W.iret (v := y_38) hx hb hr (fun t ht hW => ⟨⟨_, _, rfl, ⟨(bd_sub b_39 (by decide)), trivial⟩, q3_of g hK ht hW⟩, g.2.2.1.F ht⟩) g.2.2.1.2.2 dX14_named_77
    have hl9 := lv_sub hl [0, 1, 2, 3] (by rfl : lv_pick [(5, .int 0), (0, .ref a0_), (1, .long x1_), (3, .long x2_)] [0, 1, 2, 3] = [(5, .int 0), (0, .ref a0_), (1, .long x1_), (3, .long x2_)])
    have g9 := g.sub (fx' := [(14, 24, a0_, .int x_1)]) [0] rfl
    exact loop_9 (25) 0 (bd_sub kb_0 (by decide)) (by have h9_0 := kb_0; unfold bd at h9_0; omega) _ _ _ _ g9  hl9
set_option maxHeartbeats 4000000 in
set_option maxRecDepth 100000 in
theorem r_X14_counts (l : Launch) (dC : Nat → ClassId) (dI : Nat → Nat → Nat) (L : List Nat) (kd : Nat → Nat) (tys : List (ClassId × FieldType)) (f0 : Nat → va_E) (sz : Nat) (hWT : WT L kd tys f0) (a0_ : Nat) (ma0_ : a0_ ∈ L) (ka0_ : kd a0_ = 14) (q0_ : Nat) (mq0_ : q0_ ∈ L) (kq0_ : kd q0_ = 12) (hfx : Fs L kd f0 [(14, 2, a0_, .ref q0_)]) : MetE l yX14_counts (.code yX14_counts cX14_counts 1 none :: lw_g) ({ frames := 2, cells := 0, slots := 0, locals := 45 }) (va_Pc [.ref a0_] (P3 (dC, dI) L tys f0 sz)) (q3E (dC, dI) L kd tys [(12, 58), (14, 14), (14, 15)] [] f0 sz (pRv (fun (f : Nat → va_E) => (∃ z0_ : Int32, bd (-2147483647) 2000 z0_ ∧ Fs L kd f [(12, 58, q0_, .int z0_)]))) (fun (f : Nat → va_E) => True)) 0 0 (pA L sz) := by
  refine MetE.ofW (cc := cX14_counts) (maxL := 1) (ret := none) (by decide) rfl ?_
  intro p e s m args below meth c s₁ B hml hempty hv
  obtain ⟨rfl, hsz, hP, hK, hD0⟩ := hv
  have hx := B.exec
  have hb := B.bytes
  have hr := B.returns
  have hts := atoms_spec (ws := (.code yX14_counts cX14_counts 1 none :: lw_g)) B.pre
  have hown : s.vm.findClass RX14 = some m.cls := findClass_of_methodNamed B.named
  have hlocks := B.notSynchronized
  subst hsz
  have g : G3 (dC, dI) L kd tys s f0 [(12, 58), (14, 14), (14, 15)] [] f0 s.heap [] [(14, 2, a0_, .ref q0_)] := G3.start hP hD0 hWT hfx
  have hl := lv_entry ([.ref a0_]) (n := 1) (Nat.le_of_ble_eq_true rfl)
  rw [lg_entry_eq]
  generalize (lg_sl ([.ref a0_]) ++ List.replicate (1 - (lg_sl ([.ref a0_])).length) Slot.unset).toArray = ls at hl ⊢
  have hl : lv_has ls 1 [(0, .ref a0_)] := hl
  refine W_q (fun Q hQ => ?_)
  refine lv_aload_n hx hb dX14_counts_0 rfl (lv_at hl 0 rfl) ?_
  refine lv_aload_n hx hb dX14_counts_1 rfl (lv_at hl 0 rfl) ?_
  refine g_getk (C := RX14) (T := TX14) (N := 67) hx hb hts (mc_ inX14) hown hK g rfl 2 (by decide) rfl (hts _ (List.mem_cons_of_mem _ t_2148)) (fun _ h9 => h9) 0 rfl dX14_counts_2 ?_
  refine g_geti (C := RX12) (T := TX12) (N := 60) hx hb hts (mc_ inX12) hown hK g mq0_ kq0_ (by decide) rfl 58 (by decide) rfl (hts _ (List.mem_cons_of_mem _ t_2018)) (fun _ h9 => h9) rfl dX14_counts_5 (fun x_1 bx_1 g => ?_)
  refine lv_sipush (v := 2000) hx hb dX14_counts_8 (by decide) ?_
  have kb_2000 : bd 2000 2000 (2000 : Int32) := ⟨by decide, by decide⟩
  refine lv_icmp_ge (tgt := 18) hx hb dX14_counts_11 (by decide) (fun c_2 => ?_) (fun c_2 => ?_)
  · have fc_2 := le_f c_2
    have b_3 : bd 2000 2147483647 x_1 := leR fc_2 kb_2000 (bdT x_1) (by decide)
    refine lv_iconst (v := 0) hx hb dX14_counts_18 (by decide) ?_
    refine lv_iconst (v := 4) hx hb dX14_counts_19 (by decide) ?_
    refine lv_aload_n hx hb dX14_counts_20 rfl (lv_at hl 0 rfl) ?_
    refine g_geti (C := RX14) (T := TX14) (N := 67) hx hb hts (mc_ inX14) hown hK g ma0_ ka0_ (by decide) rfl 8 (by decide) rfl (hts _ (List.mem_cons_of_mem _ t_2154)) (fun _ h9 => h9) rfl dX14_counts_21 (fun x_4 bx_4 g => ?_)
    have kb_0 : bd 0 0 (0 : Int32) := ⟨by decide, by decide⟩
    refine g_callEv (As := [.int 0, .int 4, .int x_4]) (rest := []) ⟨hx, hb, hml, hown, hts⟩ (r_X14_need_2 l dC dI L kd tys f0 s.heap.size g.2.2.2.1 a0_ ma0_ ka0_ 0 kb_0 4 x_4) (cwV 3 hts (gV_ t_2403 t_2405 t_100 t_198 t_2406) rfl rfl rfl (by decide +kernel) ⟨(Nat.le_of_ble_eq_true rfl), (Nat.le_of_ble_eq_true rfl)⟩) (pre3V g hK ma0_ ka0_ (by decide) (q := (RX14, TX14, 67)) rfl) rfl hl.1 rfl (lv_room (Nat.le_of_ble_eq_true rfl)) dX14_counts_24 ⟨(Nat.le_of_ble_eq_true rfl), (Nat.le_of_ble_eq_true rfl)⟩ g hK (by decide) (by decide) (fx' := [(14, 8, a0_, .int x_4), (12, 58, q0_, .int x_1), (14, 2, a0_, .ref q0_)]) rfl (fun xr_5 fr_5 H locs mxr_5 kxr_5 hp hMr_5 g => ?_) (fun fr_5 H locs hp hMr_5 g => ?_)
    · subst hQ
      exact WX.leaves hempty hlocks (fun t ht hW => g_thrE g hK mxr_5 kxr_5 trivial ht hW) g.2.2.1.2.2
    · exact hp.elim
  · have fc_2 := nle_f c_2
    have b_6 : bd (-2147483648) 1999 x_1 := ltL fc_2 (bdT x_1) kb_2000 (by decide)
    refine lv_iconst (v := 1) hx hb dX14_counts_14 (by decide) ?_
    refine lv_goto (tgt := 19) hx hb dX14_counts_15 (by decide) ?_
    refine lv_iconst (v := 4) hx hb dX14_counts_19 (by decide) ?_
    refine lv_aload_n hx hb dX14_counts_20 rfl (lv_at hl 0 rfl) ?_
    refine g_geti (C := RX14) (T := TX14) (N := 67) hx hb hts (mc_ inX14) hown hK g ma0_ ka0_ (by decide) rfl 8 (by decide) rfl (hts _ (List.mem_cons_of_mem _ t_2154)) (fun _ h9 => h9) rfl dX14_counts_21 (fun x_7 bx_7 g => ?_)
    have kb_1 : bd 1 1 (1 : Int32) := ⟨by decide, by decide⟩
    refine g_callEv (As := [.int 1, .int 4, .int x_7]) (rest := []) ⟨hx, hb, hml, hown, hts⟩ (r_X14_need_3 l dC dI L kd tys f0 s.heap.size g.2.2.2.1 a0_ ma0_ ka0_ 1 kb_1 4 x_7) (cwV 3 hts (gV_ t_2403 t_2405 t_100 t_198 t_2406) rfl rfl rfl (by decide +kernel) ⟨(Nat.le_of_ble_eq_true rfl), (Nat.le_of_ble_eq_true rfl)⟩) (pre3V g hK ma0_ ka0_ (by decide) (q := (RX14, TX14, 67)) rfl) rfl hl.1 rfl (lv_room (Nat.le_of_ble_eq_true rfl)) dX14_counts_24 ⟨(Nat.le_of_ble_eq_true rfl), (Nat.le_of_ble_eq_true rfl)⟩ g hK (by decide) (by decide) (fx' := [(14, 8, a0_, .int x_7), (12, 58, q0_, .int x_1), (14, 2, a0_, .ref q0_)]) rfl (fun xr_8 fr_8 H locs mxr_8 kxr_8 hp hMr_8 g => ?_) (fun fr_8 H locs hp hMr_8 g => ?_)
    · exact hp.elim
    · refine lv_aload_n hx hb dX14_counts_27 rfl (lv_at hl 0 rfl) ?_
      refine g_getk (C := RX14) (T := TX14) (N := 67) hx hb hts (mc_ inX14) hown hK g rfl 2 (by decide) rfl (hts _ (List.mem_cons_of_mem _ t_2148)) (fun _ h9 => h9) 2 rfl dX14_counts_28 ?_
      refine lv_dup hx hb dX14_counts_31 rfl ?_
      refine g_getk (C := RX12) (T := TX12) (N := 60) hx hb hts (mc_ inX12) hown hK g rfl 58 (by decide) rfl (hts _ (List.mem_cons_of_mem _ t_2018)) (fun _ h9 => h9) 1 rfl dX14_counts_32 ?_
      refine lv_iconst (v := 1) hx hb dX14_counts_35 (by decide) ?_
      refine lv_iadd hx hb dX14_counts_36 ?_
      refine lv_topi (fun y_9 ey_9 => ?_)
      have ty_9 := add_bd ey_9 b_6 kb_1 (by decide)
      have b_10 : bd (-2147483647) 2000 y_9 := add_rg ty_9 b_6 kb_1 (by decide)
      refine g_put (C := RX12) (T := TX12) (N := 60) hx hb hts (mc_ inX12) tyX12 tyX12_ok nmX12 hown hK g mq0_ kq0_ (by decide) rfl 58 (by decide) (hts _ (List.mem_cons_of_mem _ t_2018)) (fun _ h9 => h9) rfl rfl (okV_i (bd_sub b_10 (by decide))) rfl rfl (by decide) (Or.inr (Or.inl (by decide))) (fx' := [(14, 8, a0_, .int x_7), (14, 2, a0_, .ref q0_)]) rfl dX14_counts_37 (fun f H locs hM_11 g => ?_)
      subst hQ
      exact W.thenQ (W.vret hx hb hr (fun t ht hW => g_retE g hK ⟨rfl, ⟨y_9, b_10, (g.fcts [0] rfl)⟩⟩ ht hW) g.2.2.1.2.2 dX14_counts_40) (fun _ => MQ.toE)
set_option maxHeartbeats 4000000 in
set_option maxRecDepth 100000 in
theorem r_X14_opens (l : Launch) (dC : Nat → ClassId) (dI : Nat → Nat → Nat) (L : List Nat) (kd : Nat → Nat) (tys : List (ClassId × FieldType)) (f0 : Nat → va_E) (sz : Nat) (hWT : WT L kd tys f0) (a0_ : Nat) (ma0_ : a0_ ∈ L) (ka0_ : kd a0_ = 14) (x1_ : Int32) : MetE l yX14_opens (.code yX14_opens cX14_opens 2 none :: lw_g) ({ frames := 2, cells := 0, slots := 0, locals := 45 }) (va_Pc [.ref a0_, .int x1_] (P3 (dC, dI) L tys f0 sz)) (q3E (dC, dI) L kd tys [(14, 14), (14, 15), (14, 25)] [] f0 sz (pRv (fun (f : Nat → va_E) => (∃ z0_ : Int32, bd 1 40 z0_ ∧ Fs L kd f [(14, 25, a0_, .int z0_)]))) (fun (f : Nat → va_E) => True)) 0 0 (pA L sz) := by
  refine MetE.ofW (cc := cX14_opens) (maxL := 2) (ret := none) (by decide) rfl ?_
  intro p e s m args below meth c s₁ B hml hempty hv
  obtain ⟨rfl, hsz, hP, hK, hD0⟩ := hv
  have hx := B.exec
  have hb := B.bytes
  have hr := B.returns
  have hts := atoms_spec (ws := (.code yX14_opens cX14_opens 2 none :: lw_g)) B.pre
  have hown : s.vm.findClass RX14 = some m.cls := findClass_of_methodNamed B.named
  have hlocks := B.notSynchronized
  subst hsz
  have g : G3 (dC, dI) L kd tys s f0 [(14, 14), (14, 15), (14, 25)] [] f0 s.heap [] [] := G3.start hP hD0 hWT Fs.nil
  have hl := lv_entry ([.ref a0_, .int x1_]) (n := 2) (Nat.le_of_ble_eq_true rfl)
  rw [lg_entry_eq]
  generalize (lg_sl ([.ref a0_, .int x1_]) ++ List.replicate (2 - (lg_sl ([.ref a0_, .int x1_])).length) Slot.unset).toArray = ls at hl ⊢
  have hl : lv_has ls 2 [(0, .ref a0_), (1, .int x1_)] := hl
  refine W_q (fun Q hQ => ?_)
  refine lv_aload_n hx hb dX14_opens_0 rfl (lv_at hl 0 rfl) ?_
  refine lv_aload_n hx hb dX14_opens_1 rfl (lv_at hl 0 rfl) ?_
  refine g_geti (C := RX14) (T := TX14) (N := 67) hx hb hts (mc_ inX14) hown hK g ma0_ ka0_ (by decide) rfl 25 (by decide) rfl (hts _ (List.mem_cons_of_mem _ t_2171)) (fun _ h9 => h9) rfl dX14_opens_2 (fun x_1 bx_1 g => ?_)
  refine lv_bipush (v := 40) hx hb dX14_opens_5 (by decide) ?_
  have kb_40 : bd 40 40 (40 : Int32) := ⟨by decide, by decide⟩
  refine lv_icmp_ge (tgt := 14) hx hb dX14_opens_7 (by decide) (fun c_2 => ?_) (fun c_2 => ?_)
  · have fc_2 := le_f c_2
    have b_3 : bd 40 40 x_1 := leR fc_2 kb_40 bx_1 (by decide)
    refine lv_iconst (v := 0) hx hb dX14_opens_14 (by decide) ?_
    refine lv_iconst (v := 4) hx hb dX14_opens_15 (by decide) ?_
    refine lv_iload_n hx hb dX14_opens_16 rfl (lv_at hl 1 rfl) ?_
    have kb_0 : bd 0 0 (0 : Int32) := ⟨by decide, by decide⟩
    refine g_callEv (As := [.int 0, .int 4, .int x1_]) (rest := []) ⟨hx, hb, hml, hown, hts⟩ (r_X14_need_2 l dC dI L kd tys f0 s.heap.size g.2.2.2.1 a0_ ma0_ ka0_ 0 kb_0 4 x1_) (cwV 3 hts (gV_ t_2403 t_2405 t_100 t_198 t_2406) rfl rfl rfl (by decide +kernel) ⟨(Nat.le_of_ble_eq_true rfl), (Nat.le_of_ble_eq_true rfl)⟩) (pre3V g hK ma0_ ka0_ (by decide) (q := (RX14, TX14, 67)) rfl) rfl hl.1 rfl (lv_room (Nat.le_of_ble_eq_true rfl)) dX14_opens_17 ⟨(Nat.le_of_ble_eq_true rfl), (Nat.le_of_ble_eq_true rfl)⟩ g hK (by decide) (by decide) (fx' := [(14, 25, a0_, .int x_1)]) rfl (fun xr_4 fr_4 H locs mxr_4 kxr_4 hp hMr_4 g => ?_) (fun fr_4 H locs hp hMr_4 g => ?_)
    · subst hQ
      exact WX.leaves hempty hlocks (fun t ht hW => g_thrE g hK mxr_4 kxr_4 trivial ht hW) g.2.2.1.2.2
    · exact hp.elim
  · have fc_2 := nle_f c_2
    have b_5 : bd 0 39 x_1 := ltL fc_2 bx_1 kb_40 (by decide)
    refine lv_iconst (v := 1) hx hb dX14_opens_10 (by decide) ?_
    refine lv_goto (tgt := 15) hx hb dX14_opens_11 (by decide) ?_
    refine lv_iconst (v := 4) hx hb dX14_opens_15 (by decide) ?_
    refine lv_iload_n hx hb dX14_opens_16 rfl (lv_at hl 1 rfl) ?_
    have kb_1 : bd 1 1 (1 : Int32) := ⟨by decide, by decide⟩
    refine g_callEv (As := [.int 1, .int 4, .int x1_]) (rest := []) ⟨hx, hb, hml, hown, hts⟩ (r_X14_need_3 l dC dI L kd tys f0 s.heap.size g.2.2.2.1 a0_ ma0_ ka0_ 1 kb_1 4 x1_) (cwV 3 hts (gV_ t_2403 t_2405 t_100 t_198 t_2406) rfl rfl rfl (by decide +kernel) ⟨(Nat.le_of_ble_eq_true rfl), (Nat.le_of_ble_eq_true rfl)⟩) (pre3V g hK ma0_ ka0_ (by decide) (q := (RX14, TX14, 67)) rfl) rfl hl.1 rfl (lv_room (Nat.le_of_ble_eq_true rfl)) dX14_opens_17 ⟨(Nat.le_of_ble_eq_true rfl), (Nat.le_of_ble_eq_true rfl)⟩ g hK (by decide) (by decide) (fx' := [(14, 25, a0_, .int x_1)]) rfl (fun xr_6 fr_6 H locs mxr_6 kxr_6 hp hMr_6 g => ?_) (fun fr_6 H locs hp hMr_6 g => ?_)
    · exact hp.elim
    · refine lv_aload_n hx hb dX14_opens_20 rfl (lv_at hl 0 rfl) ?_
      refine lv_dup hx hb dX14_opens_21 rfl ?_
      refine g_getk (C := RX14) (T := TX14) (N := 67) hx hb hts (mc_ inX14) hown hK g rfl 25 (by decide) rfl (hts _ (List.mem_cons_of_mem _ t_2171)) (fun _ h9 => h9) 0 rfl dX14_opens_22 ?_
      refine lv_iconst (v := 1) hx hb dX14_opens_25 (by decide) ?_
      refine lv_iadd hx hb dX14_opens_26 ?_
      refine lv_topi (fun y_7 ey_7 => ?_)
      have ty_7 := add_bd ey_7 b_5 kb_1 (by decide)
      have b_8 : bd 1 40 y_7 := add_rg ty_7 b_5 kb_1 (by decide)
      refine g_put (C := RX14) (T := TX14) (N := 67) hx hb hts (mc_ inX14) tyX14 tyX14_ok nmX14 hown hK g ma0_ ka0_ (by decide) rfl 25 (by decide) (hts _ (List.mem_cons_of_mem _ t_2171)) (fun _ h9 => h9) rfl rfl (okV_i (bd_sub b_8 (by decide))) rfl rfl (by decide) (Or.inr (Or.inl (by decide))) (fx' := []) rfl dX14_opens_27 (fun f H locs hM_9 g => ?_)
      subst hQ
      exact W.thenQ (W.vret hx hb hr (fun t ht hW => g_retE g hK ⟨rfl, ⟨y_7, b_8, (g.fcts [0] rfl)⟩⟩ ht hW) g.2.2.1.2.2 dX14_opens_30) (fun _ => MQ.toE)
set_option maxHeartbeats 4000000 in
set_option maxRecDepth 100000 in
theorem r_X14_strength (l : Launch) (dC : Nat → ClassId) (dI : Nat → Nat → Nat) (L : List Nat) (kd : Nat → Nat) (tys : List (ClassId × FieldType)) (f0 : Nat → va_E) (sz : Nat) (hWT : WT L kd tys f0) (a0_ : Nat) (ma0_ : a0_ ∈ L) (ka0_ : kd a0_ = 14) : Met l yX14_strength (.code yX14_strength cX14_strength 1 (some .int) :: lw_g) ({ frames := 0, cells := 0, slots := 0, locals := 0 }) (va_Pc [.ref a0_] (P3 (dC, dI) L tys f0 sz)) (va_Qi (fun (r : Int32) (f : Nat → va_E) => (bd 0 5 r ∧ True)) (Q3 (dC, dI) L kd tys [] [] f0 sz) (pA L sz)) 0 0 (pA L sz) := by
  refine Met.ofW (cc := cX14_strength) (maxL := 1) (ret := (some .int)) (by decide) rfl ?_
  intro p e s m args below meth c s₁ B hml hv
  obtain ⟨rfl, hsz, hP, hK, hD0⟩ := hv
  have hx := B.exec
  have hb := B.bytes
  have hr := B.returns
  have hts := atoms_spec (ws := (.code yX14_strength cX14_strength 1 (some .int) :: lw_g)) B.pre
  have hown : s.vm.findClass RX14 = some m.cls := findClass_of_methodNamed B.named
  have hlocks := B.notSynchronized
  subst hsz
  have g : G3 (dC, dI) L kd tys s f0 [] [] f0 s.heap [] [] := G3.start hP hD0 hWT Fs.nil
  have hl := lv_entry ([.ref a0_]) (n := 1) (Nat.le_of_ble_eq_true rfl)
  rw [lg_entry_eq]
  generalize (lg_sl ([.ref a0_]) ++ List.replicate (1 - (lg_sl ([.ref a0_])).length) Slot.unset).toArray = ls at hl ⊢
  have hl : lv_has ls 1 [(0, .ref a0_)] := hl
  refine W_q (fun Q hQ => ?_)
  refine lv_aload_n hx hb dX14_strength_0 rfl (lv_at hl 0 rfl) ?_
  refine g_geti (C := RX14) (T := TX14) (N := 67) hx hb hts (mc_ inX14) hown hK g ma0_ ka0_ (by decide) rfl 6 (by decide) rfl (hts _ (List.mem_cons_of_mem _ t_2152)) (fun _ h9 => h9) rfl dX14_strength_1 (fun x_1 bx_1 g => ?_)
  refine lv_iconst (v := 4) hx hb dX14_strength_4 (by decide) ?_
  have kb_4 : bd 4 4 (4 : Int32) := ⟨by decide, by decide⟩
  refine lv_icmp_eq (tgt := 10) hx hb dX14_strength_5 (by decide) (fun c_2 => ?_) (fun c_2 => ?_)
  · have fc_2 := eq_f c_2
    have b_3 : bd 4 4 x_1 := eqX fc_2 bx_1 kb_4 (by decide)
    refine lv_aload_n hx hb dX14_strength_10 rfl (lv_at hl 0 rfl) ?_
    refine g_geti (C := RX14) (T := TX14) (N := 67) hx hb hts (mc_ inX14) hown hK g ma0_ ka0_ (by decide) rfl 7 (by decide) rfl (hts _ (List.mem_cons_of_mem _ t_2153)) (fun _ h9 => h9) rfl dX14_strength_11 (fun x_4 bx_4 g => ?_)
    by_cases e_5 : x_4 = 37
    · refine lv_topi (fun z_6 ez_6 => ?_)
      obtain rfl : z_6 = 37 := ez_6.trans e_5
      have kb_37 : bd 37 37 (37 : Int32) := ⟨by decide, by decide⟩
      have b_7 : bd 37 37 x_4 := eqX (eq_f e_5) (bdT x_4) kb_37 (by decide)
      refine lv_lookup (off := 122) (tgt := 136) hx hb dX14_strength_14 (by decide) (by decide) (by decide) ?_
      refine lv_iconst (v := 5) hx hb dX14_strength_136 (by decide) ?_
      have kb_5 : bd 5 5 (5 : Int32) := ⟨by decide, by decide⟩
      subst hQ
      exact W.iret (v := 5) hx hb hr (fun t ht hW => ⟨⟨_, _, rfl, ⟨(bd_sub kb_5 (by decide)), trivial⟩, q3_of g hK ht hW⟩, g.2.2.1.F ht⟩) g.2.2.1.2.2 dX14_strength_137
    by_cases e_8 : x_4 = 42
    · refine lv_topi (fun z_9 ez_9 => ?_)
      obtain rfl : z_9 = 42 := ez_9.trans e_8
      have kb_42 : bd 42 42 (42 : Int32) := ⟨by decide, by decide⟩
      have b_10 : bd 42 42 x_4 := eqX (eq_f e_8) (bdT x_4) kb_42 (by decide)
      refine lv_lookup (off := 122) (tgt := 136) hx hb dX14_strength_14 (by decide) (by decide) (by decide) ?_
      refine lv_iconst (v := 5) hx hb dX14_strength_136 (by decide) ?_
      have kb_5 : bd 5 5 (5 : Int32) := ⟨by decide, by decide⟩
      subst hQ
      exact W.iret (v := 5) hx hb hr (fun t ht hW => ⟨⟨_, _, rfl, ⟨(bd_sub kb_5 (by decide)), trivial⟩, q3_of g hK ht hW⟩, g.2.2.1.F ht⟩) g.2.2.1.2.2 dX14_strength_137
    by_cases e_11 : x_4 = 43
    · refine lv_topi (fun z_12 ez_12 => ?_)
      obtain rfl : z_12 = 43 := ez_12.trans e_11
      have kb_43 : bd 43 43 (43 : Int32) := ⟨by decide, by decide⟩
      have b_13 : bd 43 43 x_4 := eqX (eq_f e_11) (bdT x_4) kb_43 (by decide)
      refine lv_lookup (off := 120) (tgt := 134) hx hb dX14_strength_14 (by decide) (by decide) (by decide) ?_
      refine lv_iconst (v := 4) hx hb dX14_strength_134 (by decide) ?_
      subst hQ
      exact W.iret (v := 4) hx hb hr (fun t ht hW => ⟨⟨_, _, rfl, ⟨(bd_sub kb_4 (by decide)), trivial⟩, q3_of g hK ht hW⟩, g.2.2.1.F ht⟩) g.2.2.1.2.2 dX14_strength_135
    by_cases e_14 : x_4 = 45
    · refine lv_topi (fun z_15 ez_15 => ?_)
      obtain rfl : z_15 = 45 := ez_15.trans e_14
      have kb_45 : bd 45 45 (45 : Int32) := ⟨by decide, by decide⟩
      have b_16 : bd 45 45 x_4 := eqX (eq_f e_14) (bdT x_4) kb_45 (by decide)
      refine lv_lookup (off := 120) (tgt := 134) hx hb dX14_strength_14 (by decide) (by decide) (by decide) ?_
      refine lv_iconst (v := 4) hx hb dX14_strength_134 (by decide) ?_
      subst hQ
      exact W.iret (v := 4) hx hb hr (fun t ht hW => ⟨⟨_, _, rfl, ⟨(bd_sub kb_4 (by decide)), trivial⟩, q3_of g hK ht hW⟩, g.2.2.1.F ht⟩) g.2.2.1.2.2 dX14_strength_135
    by_cases e_17 : x_4 = 47
    · refine lv_topi (fun z_18 ez_18 => ?_)
      obtain rfl : z_18 = 47 := ez_18.trans e_17
      have kb_47 : bd 47 47 (47 : Int32) := ⟨by decide, by decide⟩
      have b_19 : bd 47 47 x_4 := eqX (eq_f e_17) (bdT x_4) kb_47 (by decide)
      refine lv_lookup (off := 122) (tgt := 136) hx hb dX14_strength_14 (by decide) (by decide) (by decide) ?_
      refine lv_iconst (v := 5) hx hb dX14_strength_136 (by decide) ?_
      have kb_5 : bd 5 5 (5 : Int32) := ⟨by decide, by decide⟩
      subst hQ
      exact W.iret (v := 5) hx hb hr (fun t ht hW => ⟨⟨_, _, rfl, ⟨(bd_sub kb_5 (by decide)), trivial⟩, q3_of g hK ht hW⟩, g.2.2.1.F ht⟩) g.2.2.1.2.2 dX14_strength_137
    by_cases e_20 : x_4 = 60
    · refine lv_topi (fun z_21 ez_21 => ?_)
      obtain rfl : z_21 = 60 := ez_21.trans e_20
      have kb_60 : bd 60 60 (60 : Int32) := ⟨by decide, by decide⟩
      have b_22 : bd 60 60 x_4 := eqX (eq_f e_20) (bdT x_4) kb_60 (by decide)
      refine lv_lookup (off := 118) (tgt := 132) hx hb dX14_strength_14 (by decide) (by decide) (by decide) ?_
      refine lv_iconst (v := 3) hx hb dX14_strength_132 (by decide) ?_
      have kb_3 : bd 3 3 (3 : Int32) := ⟨by decide, by decide⟩
      subst hQ
      exact W.iret (v := 3) hx hb hr (fun t ht hW => ⟨⟨_, _, rfl, ⟨(bd_sub kb_3 (by decide)), trivial⟩, q3_of g hK ht hW⟩, g.2.2.1.F ht⟩) g.2.2.1.2.2 dX14_strength_133
    by_cases e_23 : x_4 = 62
    · refine lv_topi (fun z_24 ez_24 => ?_)
      obtain rfl : z_24 = 62 := ez_24.trans e_23
      have kb_62 : bd 62 62 (62 : Int32) := ⟨by decide, by decide⟩
      have b_25 : bd 62 62 x_4 := eqX (eq_f e_23) (bdT x_4) kb_62 (by decide)
      refine lv_lookup (off := 118) (tgt := 132) hx hb dX14_strength_14 (by decide) (by decide) (by decide) ?_
      refine lv_iconst (v := 3) hx hb dX14_strength_132 (by decide) ?_
      have kb_3 : bd 3 3 (3 : Int32) := ⟨by decide, by decide⟩
      subst hQ
      exact W.iret (v := 3) hx hb hr (fun t ht hW => ⟨⟨_, _, rfl, ⟨(bd_sub kb_3 (by decide)), trivial⟩, q3_of g hK ht hW⟩, g.2.2.1.F ht⟩) g.2.2.1.2.2 dX14_strength_133
    by_cases e_26 : x_4 = 8509
    · refine lv_topi (fun z_27 ez_27 => ?_)
      obtain rfl : z_27 = 8509 := ez_27.trans e_26
      have kb_8509 : bd 8509 8509 (8509 : Int32) := ⟨by decide, by decide⟩
      have b_28 : bd 8509 8509 x_4 := eqX (eq_f e_26) (bdT x_4) kb_8509 (by decide)
      refine lv_lookup (off := 118) (tgt := 132) hx hb dX14_strength_14 (by decide) (by decide) (by decide) ?_
      refine lv_iconst (v := 3) hx hb dX14_strength_132 (by decide) ?_
      have kb_3 : bd 3 3 (3 : Int32) := ⟨by decide, by decide⟩
      subst hQ
      exact W.iret (v := 3) hx hb hr (fun t ht hW => ⟨⟨_, _, rfl, ⟨(bd_sub kb_3 (by decide)), trivial⟩, q3_of g hK ht hW⟩, g.2.2.1.F ht⟩) g.2.2.1.2.2 dX14_strength_133
    by_cases e_29 : x_4 = 9766
    · refine lv_topi (fun z_30 ez_30 => ?_)
      obtain rfl : z_30 = 9766 := ez_30.trans e_29
      have kb_9766 : bd 9766 9766 (9766 : Int32) := ⟨by decide, by decide⟩
      have b_31 : bd 9766 9766 x_4 := eqX (eq_f e_29) (bdT x_4) kb_9766 (by decide)
      refine lv_lookup (off := 116) (tgt := 130) hx hb dX14_strength_14 (by decide) (by decide) (by decide) ?_
      refine lv_iconst (v := 2) hx hb dX14_strength_130 (by decide) ?_
      have kb_2 : bd 2 2 (2 : Int32) := ⟨by decide, by decide⟩
      subst hQ
      exact W.iret (v := 2) hx hb hr (fun t ht hW => ⟨⟨_, _, rfl, ⟨(bd_sub kb_2 (by decide)), trivial⟩, q3_of g hK ht hW⟩, g.2.2.1.F ht⟩) g.2.2.1.2.2 dX14_strength_131
    by_cases e_32 : x_4 = 15421
    · refine lv_topi (fun z_33 ez_33 => ?_)
      obtain rfl : z_33 = 15421 := ez_33.trans e_32
      have kb_15421 : bd 15421 15421 (15421 : Int32) := ⟨by decide, by decide⟩
      have b_34 : bd 15421 15421 x_4 := eqX (eq_f e_32) (bdT x_4) kb_15421 (by decide)
      refine lv_lookup (off := 118) (tgt := 132) hx hb dX14_strength_14 (by decide) (by decide) (by decide) ?_
      refine lv_iconst (v := 3) hx hb dX14_strength_132 (by decide) ?_
      have kb_3 : bd 3 3 (3 : Int32) := ⟨by decide, by decide⟩
      subst hQ
      exact W.iret (v := 3) hx hb hr (fun t ht hW => ⟨⟨_, _, rfl, ⟨(bd_sub kb_3 (by decide)), trivial⟩, q3_of g hK ht hW⟩, g.2.2.1.F ht⟩) g.2.2.1.2.2 dX14_strength_133
    by_cases e_35 : x_4 = 15677
    · refine lv_topi (fun z_36 ez_36 => ?_)
      obtain rfl : z_36 = 15677 := ez_36.trans e_35
      have kb_15677 : bd 15677 15677 (15677 : Int32) := ⟨by decide, by decide⟩
      have b_37 : bd 15677 15677 x_4 := eqX (eq_f e_35) (bdT x_4) kb_15677 (by decide)
      refine lv_lookup (off := 118) (tgt := 132) hx hb dX14_strength_14 (by decide) (by decide) (by decide) ?_
      refine lv_iconst (v := 3) hx hb dX14_strength_132 (by decide) ?_
      have kb_3 : bd 3 3 (3 : Int32) := ⟨by decide, by decide⟩
      subst hQ
      exact W.iret (v := 3) hx hb hr (fun t ht hW => ⟨⟨_, _, rfl, ⟨(bd_sub kb_3 (by decide)), trivial⟩, q3_of g hK ht hW⟩, g.2.2.1.F ht⟩) g.2.2.1.2.2 dX14_strength_133
    by_cases e_38 : x_4 = 15933
    · refine lv_topi (fun z_39 ez_39 => ?_)
      obtain rfl : z_39 = 15933 := ez_39.trans e_38
      have kb_15933 : bd 15933 15933 (15933 : Int32) := ⟨by decide, by decide⟩
      have b_40 : bd 15933 15933 x_4 := eqX (eq_f e_38) (bdT x_4) kb_15933 (by decide)
      refine lv_lookup (off := 118) (tgt := 132) hx hb dX14_strength_14 (by decide) (by decide) (by decide) ?_
      refine lv_iconst (v := 3) hx hb dX14_strength_132 (by decide) ?_
      have kb_3 : bd 3 3 (3 : Int32) := ⟨by decide, by decide⟩
      subst hQ
      exact W.iret (v := 3) hx hb hr (fun t ht hW => ⟨⟨_, _, rfl, ⟨(bd_sub kb_3 (by decide)), trivial⟩, q3_of g hK ht hW⟩, g.2.2.1.F ht⟩) g.2.2.1.2.2 dX14_strength_133
    by_cases e_41 : x_4 = 31868
    · refine lv_topi (fun z_42 ez_42 => ?_)
      obtain rfl : z_42 = 31868 := ez_42.trans e_41
      have kb_31868 : bd 31868 31868 (31868 : Int32) := ⟨by decide, by decide⟩
      have b_43 : bd 31868 31868 x_4 := eqX (eq_f e_41) (bdT x_4) kb_31868 (by decide)
      refine lv_lookup (off := 114) (tgt := 128) hx hb dX14_strength_14 (by decide) (by decide) (by decide) ?_
      refine lv_iconst (v := 1) hx hb dX14_strength_128 (by decide) ?_
      have kb_1 : bd 1 1 (1 : Int32) := ⟨by decide, by decide⟩
      subst hQ
      exact W.iret (v := 1) hx hb hr (fun t ht hW => ⟨⟨_, _, rfl, ⟨(bd_sub kb_1 (by decide)), trivial⟩, q3_of g hK ht hW⟩, g.2.2.1.F ht⟩) g.2.2.1.2.2 dX14_strength_129
    refine lv_lookup (off := 124) (tgt := 138) hx hb dX14_strength_14 (by decide) (by have a0 : x_4.toInt ≠ 37 := fun h => e_5 (Int32.toInt_inj.mp (h.trans (by decide))); have a1 : x_4.toInt ≠ 42 := fun h => e_8 (Int32.toInt_inj.mp (h.trans (by decide))); have a2 : x_4.toInt ≠ 43 := fun h => e_11 (Int32.toInt_inj.mp (h.trans (by decide))); have a3 : x_4.toInt ≠ 45 := fun h => e_14 (Int32.toInt_inj.mp (h.trans (by decide))); have a4 : x_4.toInt ≠ 47 := fun h => e_17 (Int32.toInt_inj.mp (h.trans (by decide))); have a5 : x_4.toInt ≠ 60 := fun h => e_20 (Int32.toInt_inj.mp (h.trans (by decide))); have a6 : x_4.toInt ≠ 62 := fun h => e_23 (Int32.toInt_inj.mp (h.trans (by decide))); have a7 : x_4.toInt ≠ 8509 := fun h => e_26 (Int32.toInt_inj.mp (h.trans (by decide))); have a8 : x_4.toInt ≠ 9766 := fun h => e_29 (Int32.toInt_inj.mp (h.trans (by decide))); have a9 : x_4.toInt ≠ 15421 := fun h => e_32 (Int32.toInt_inj.mp (h.trans (by decide))); have a10 : x_4.toInt ≠ 15677 := fun h => e_35 (Int32.toInt_inj.mp (h.trans (by decide))); have a11 : x_4.toInt ≠ 15933 := fun h => e_38 (Int32.toInt_inj.mp (h.trans (by decide))); have a12 : x_4.toInt ≠ 31868 := fun h => e_41 (Int32.toInt_inj.mp (h.trans (by decide))); simp [Op.lookupswitch.offset, a0, a1, a2, a3, a4, a5, a6, a7, a8, a9, a10, a11, a12, Ne.symm]) (by decide) ?_
    refine lv_iconst (v := 0) hx hb dX14_strength_138 (by decide) ?_
    have kb_0 : bd 0 0 (0 : Int32) := ⟨by decide, by decide⟩
    subst hQ
    exact W.iret (v := 0) hx hb hr (fun t ht hW => ⟨⟨_, _, rfl, ⟨(bd_sub kb_0 (by decide)), trivial⟩, q3_of g hK ht hW⟩, g.2.2.1.F ht⟩) g.2.2.1.2.2 dX14_strength_139
  · have fc_2 := neq_f c_2
    refine lv_iconst (v := 0) hx hb dX14_strength_8 (by decide) ?_
    have kb_0 : bd 0 0 (0 : Int32) := ⟨by decide, by decide⟩
    subst hQ
    exact W.iret (v := 0) hx hb hr (fun t ht hW => ⟨⟨_, _, rfl, ⟨(bd_sub kb_0 (by decide)), trivial⟩, q3_of g hK ht hW⟩, g.2.2.1.F ht⟩) g.2.2.1.2.2 dX14_strength_9
set_option maxHeartbeats 4000000 in
set_option maxRecDepth 100000 in
theorem r_X14_mayBegin (l : Launch) (dC : Nat → ClassId) (dI : Nat → Nat → Nat) (L : List Nat) (kd : Nat → Nat) (tys : List (ClassId × FieldType)) (f0 : Nat → va_E) (sz : Nat) (hWT : WT L kd tys f0) (a0_ : Nat) (ma0_ : a0_ ∈ L) (ka0_ : kd a0_ = 14) : MetE l yX14_mayBegin (.code yX14_mayBegin cX14_mayBegin 1 none :: lw_g) ({ frames := 2, cells := 0, slots := 0, locals := 45 }) (va_Pc [.ref a0_] (P3 (dC, dI) L tys f0 sz)) (q3E (dC, dI) L kd tys [(14, 14), (14, 15)] [180] f0 sz (pRv (fun (f : Nat → va_E) => (True))) (fun (f : Nat → va_E) => True)) 0 0 (pA L sz) := by
  refine MetE.ofW (cc := cX14_mayBegin) (maxL := 1) (ret := none) (by decide) rfl ?_
  intro p e s m args below meth c s₁ B hml hempty hv
  obtain ⟨rfl, hsz, hP, hK, hD0⟩ := hv
  have hx := B.exec
  have hb := B.bytes
  have hr := B.returns
  have hts := atoms_spec (ws := (.code yX14_mayBegin cX14_mayBegin 1 none :: lw_g)) B.pre
  have hown : s.vm.findClass RX14 = some m.cls := findClass_of_methodNamed B.named
  have hlocks := B.notSynchronized
  subst hsz
  have g : G3 (dC, dI) L kd tys s f0 [(14, 14), (14, 15)] [180] f0 s.heap [] [] := G3.start hP hD0 hWT Fs.nil
  have hl := lv_entry ([.ref a0_]) (n := 1) (Nat.le_of_ble_eq_true rfl)
  rw [lg_entry_eq]
  generalize (lg_sl ([.ref a0_]) ++ List.replicate (1 - (lg_sl ([.ref a0_])).length) Slot.unset).toArray = ls at hl ⊢
  have hl : lv_has ls 1 [(0, .ref a0_)] := hl
  refine W_q (fun Q hQ => ?_)
  refine lv_aload_n hx hb dX14_mayBegin_0 rfl (lv_at hl 0 rfl) ?_
  refine lv_aload_n hx hb dX14_mayBegin_1 rfl (lv_at hl 0 rfl) ?_
  refine g_getr (K := 12) (C := RX14) (T := TX14) (N := 67) hx hb hts (mc_ inX14) hown hK g ma0_ ka0_ (by decide) rfl 2 (by decide) rfl (hts _ (List.mem_cons_of_mem _ t_2148)) (fun _ h9 => h9) rfl dX14_mayBegin_2 (fun a_1 ma_1 ka_1 g => ?_)
  refine g_getr (K := 180) (C := RX12) (T := TX12) (N := 60) hx hb hts (mc_ inX12) hown hK g ma_1 ka_1 (by decide) rfl 24 (by decide) rfl (hts _ (List.mem_cons_of_mem _ t_1954)) (fun _ h9 => h9) rfl dX14_mayBegin_5 (fun a_2 ma_2 ka_2 g => ?_)
  refine lv_aload_n hx hb dX14_mayBegin_8 rfl (lv_at hl 0 rfl) ?_
  refine g_geti (C := RX14) (T := TX14) (N := 67) hx hb hts (mc_ inX14) hown hK g ma0_ ka0_ (by decide) rfl 17 (by decide) rfl (hts _ (List.mem_cons_of_mem _ t_2163)) (fun _ h9 => h9) rfl dX14_mayBegin_9 (fun x_3 bx_3 g => ?_)
  refine g_iald hx hb hK g ma_2 ka_2 (by decide) rfl (in_bd bx_3 (by decide)) dX14_mayBegin_12 (fun x_4 bx_4 cx_4 => ?_)
  refine lv_bipush (v := 40) hx hb dX14_mayBegin_13 (by decide) ?_
  have kb_40 : bd 40 40 (40 : Int32) := ⟨by decide, by decide⟩
  refine lv_icmp_ge (tgt := 22) hx hb dX14_mayBegin_15 (by decide) (fun c_5 => ?_) (fun c_5 => ?_)
  · have fc_5 := le_f c_5
    have b_6 : bd 40 40 x_4 := leR fc_5 kb_40 bx_4 (by decide)
    refine lv_iconst (v := 0) hx hb dX14_mayBegin_22 (by decide) ?_
    refine lv_iconst (v := 4) hx hb dX14_mayBegin_23 (by decide) ?_
    refine lv_aload_n hx hb dX14_mayBegin_24 rfl (lv_at hl 0 rfl) ?_
    refine g_geti (C := RX14) (T := TX14) (N := 67) hx hb hts (mc_ inX14) hown hK g ma0_ ka0_ (by decide) rfl 8 (by decide) rfl (hts _ (List.mem_cons_of_mem _ t_2154)) (fun _ h9 => h9) rfl dX14_mayBegin_25 (fun x_7 bx_7 g => ?_)
    have kb_0 : bd 0 0 (0 : Int32) := ⟨by decide, by decide⟩
    refine g_callEv (As := [.int 0, .int 4, .int x_7]) (rest := []) ⟨hx, hb, hml, hown, hts⟩ (r_X14_need_2 l dC dI L kd tys f0 s.heap.size g.2.2.2.1 a0_ ma0_ ka0_ 0 kb_0 4 x_7) (cwV 3 hts (gV_ t_2403 t_2405 t_100 t_198 t_2406) rfl rfl rfl (by decide +kernel) ⟨(Nat.le_of_ble_eq_true rfl), (Nat.le_of_ble_eq_true rfl)⟩) (pre3V g hK ma0_ ka0_ (by decide) (q := (RX14, TX14, 67)) rfl) rfl hl.1 rfl (lv_room (Nat.le_of_ble_eq_true rfl)) dX14_mayBegin_28 ⟨(Nat.le_of_ble_eq_true rfl), (Nat.le_of_ble_eq_true rfl)⟩ g hK (by decide) (by decide) (fx' := [(14, 8, a0_, .int x_7), (14, 17, a0_, .int x_3), (12, 24, a_1, .ref a_2), (14, 2, a0_, .ref a_1)]) rfl (fun xr_8 fr_8 H locs mxr_8 kxr_8 hp hMr_8 g => ?_) (fun fr_8 H locs hp hMr_8 g => ?_)
    · subst hQ
      exact WX.leaves hempty hlocks (fun t ht hW => g_thrE g hK mxr_8 kxr_8 trivial ht hW) g.2.2.1.2.2
    · exact hp.elim
  · have fc_5 := nle_f c_5
    have b_9 : bd 0 39 x_4 := ltL fc_5 bx_4 kb_40 (by decide)
    refine lv_iconst (v := 1) hx hb dX14_mayBegin_18 (by decide) ?_
    refine lv_goto (tgt := 23) hx hb dX14_mayBegin_19 (by decide) ?_
    refine lv_iconst (v := 4) hx hb dX14_mayBegin_23 (by decide) ?_
    refine lv_aload_n hx hb dX14_mayBegin_24 rfl (lv_at hl 0 rfl) ?_
    refine g_geti (C := RX14) (T := TX14) (N := 67) hx hb hts (mc_ inX14) hown hK g ma0_ ka0_ (by decide) rfl 8 (by decide) rfl (hts _ (List.mem_cons_of_mem _ t_2154)) (fun _ h9 => h9) rfl dX14_mayBegin_25 (fun x_10 bx_10 g => ?_)
    have kb_1 : bd 1 1 (1 : Int32) := ⟨by decide, by decide⟩
    refine g_callEv (As := [.int 1, .int 4, .int x_10]) (rest := []) ⟨hx, hb, hml, hown, hts⟩ (r_X14_need_3 l dC dI L kd tys f0 s.heap.size g.2.2.2.1 a0_ ma0_ ka0_ 1 kb_1 4 x_10) (cwV 3 hts (gV_ t_2403 t_2405 t_100 t_198 t_2406) rfl rfl rfl (by decide +kernel) ⟨(Nat.le_of_ble_eq_true rfl), (Nat.le_of_ble_eq_true rfl)⟩) (pre3V g hK ma0_ ka0_ (by decide) (q := (RX14, TX14, 67)) rfl) rfl hl.1 rfl (lv_room (Nat.le_of_ble_eq_true rfl)) dX14_mayBegin_28 ⟨(Nat.le_of_ble_eq_true rfl), (Nat.le_of_ble_eq_true rfl)⟩ g hK (by decide) (by decide) (fx' := [(14, 8, a0_, .int x_10), (14, 17, a0_, .int x_3), (12, 24, a_1, .ref a_2), (14, 2, a0_, .ref a_1)]) rfl (fun xr_11 fr_11 H locs mxr_11 kxr_11 hp hMr_11 g => ?_) (fun fr_11 H locs hp hMr_11 g => ?_)
    · exact hp.elim
    · refine lv_aload_n hx hb dX14_mayBegin_31 rfl (lv_at hl 0 rfl) ?_
      refine g_getk (C := RX14) (T := TX14) (N := 67) hx hb hts (mc_ inX14) hown hK g rfl 2 (by decide) rfl (hts _ (List.mem_cons_of_mem _ t_2148)) (fun _ h9 => h9) 3 rfl dX14_mayBegin_32 ?_
      refine g_getk (C := RX12) (T := TX12) (N := 60) hx hb hts (mc_ inX12) hown hK g rfl 24 (by decide) rfl (hts _ (List.mem_cons_of_mem _ t_1954)) (fun _ h9 => h9) 2 rfl dX14_mayBegin_35 ?_
      refine lv_aload_n hx hb dX14_mayBegin_38 rfl (lv_at hl 0 rfl) ?_
      refine g_getk (C := RX14) (T := TX14) (N := 67) hx hb hts (mc_ inX14) hown hK g rfl 17 (by decide) rfl (hts _ (List.mem_cons_of_mem _ t_2163)) (fun _ h9 => h9) 1 rfl dX14_mayBegin_39 ?_
      refine lv_dup2_11 hx hb dX14_mayBegin_42 rfl rfl ?_
      refine g_iald hx hb hK g ma_2 ka_2 (by decide) rfl (in_bd bx_3 (by decide)) dX14_mayBegin_43 (fun x_12 bx_12 cx_12 => ?_)
      obtain rfl : x_4 = x_12 := el_same cx_4 cx_12 (arr_eq hMr_11 ma_2 ka_2 (by decide) rfl)
      refine lv_iconst (v := 1) hx hb dX14_mayBegin_44 (by decide) ?_
      refine lv_iadd hx hb dX14_mayBegin_45 ?_
      refine lv_topi (fun y_13 ey_13 => ?_)
      have ty_13 := add_bd ey_13 b_9 kb_1 (by decide)
      have b_14 : bd 1 40 y_13 := add_rg ty_13 b_9 kb_1 (by decide)
      refine g_iast hx hb hK g ma_2 ka_2 (by decide) rfl (in_bd bx_3 (by decide)) (bd_sub b_14 (by decide)) (by decide) dX14_mayBegin_46 (fun f H locs hM_15 g => ?_)
      subst hQ
      exact W.thenQ (W.vret hx hb hr (fun t ht hW => g_retE g hK ⟨rfl, trivial⟩ ht hW) g.2.2.1.2.2 dX14_mayBegin_47) (fun _ => MQ.toE)
set_option maxHeartbeats 4000000 in
set_option maxRecDepth 100000 in
theorem r_X14_hasOnly (l : Launch) (dC : Nat → ClassId) (dI : Nat → Nat → Nat) (L : List Nat) (kd : Nat → Nat) (tys : List (ClassId × FieldType)) (f0 : Nat → va_E) (sz : Nat) (hWT : WT L kd tys f0) (a0_ : Nat) (ma0_ : a0_ ∈ L) (ka0_ : kd a0_ = 14) : Met l yX14_hasOnly (.code yX14_hasOnly cX14_hasOnly 2 (some .boolean) :: lw_g) ({ frames := 0, cells := 0, slots := 0, locals := 0 }) (va_Pc [.ref a0_] (P3 (dC, dI) L tys f0 sz)) (va_Qi (fun (r : Int32) (f : Nat → va_E) => (r = 0 ∧ True) ∨ (r = 1 ∧ True)) (Q3 (dC, dI) L kd tys [] [] f0 sz) (pA L sz)) 0 0 (pA L sz) := by
  refine Met.ofW (cc := cX14_hasOnly) (maxL := 2) (ret := (some .boolean)) (by decide) rfl ?_
  intro p e s m args below meth c s₁ B hml hv
  obtain ⟨rfl, hsz, hP, hK, hD0⟩ := hv
  have hx := B.exec
  have hb := B.bytes
  have hr := B.returns
  have hts := atoms_spec (ws := (.code yX14_hasOnly cX14_hasOnly 2 (some .boolean) :: lw_g)) B.pre
  have hown : s.vm.findClass RX14 = some m.cls := findClass_of_methodNamed B.named
  have hlocks := B.notSynchronized
  subst hsz
  have g : G3 (dC, dI) L kd tys s f0 [] [] f0 s.heap [] [] := G3.start hP hD0 hWT Fs.nil
  have hl := lv_entry ([.ref a0_]) (n := 2) (Nat.le_of_ble_eq_true rfl)
  rw [lg_entry_eq]
  generalize (lg_sl ([.ref a0_]) ++ List.replicate (2 - (lg_sl ([.ref a0_])).length) Slot.unset).toArray = ls at hl ⊢
  have hl : lv_has ls 2 [(0, .ref a0_)] := hl
  refine W_q (fun Q hQ => ?_)
  refine lv_bipush (v := 8) hx hb dX14_hasOnly_0 (by decide) ?_
  refine lv_aload_n hx hb dX14_hasOnly_2 rfl (lv_at hl 0 rfl) ?_
  refine g_geti (C := RX14) (T := TX14) (N := 67) hx hb hts (mc_ inX14) hown hK g ma0_ ka0_ (by decide) rfl 17 (by decide) rfl (hts _ (List.mem_cons_of_mem _ t_2163)) (fun _ h9 => h9) rfl dX14_hasOnly_3 (fun x_1 bx_1 g => ?_)
  refine lv_imul hx hb dX14_hasOnly_6 ?_
  refine lv_topi (fun y_2 ey_2 => ?_)
  have ty_2 := cmul_bd ey_2 (c := 8) (by decide) bx_1 (by decide)
  have b_3 : bd 0 872 y_2 := mulc_rg ty_2 bx_1 (by decide)
  refine lv_istore_n (lv' := [(1, .int y_2), (0, .ref a0_)]) hx hb dX14_hasOnly_7 rfl hl (by decide) rfl (fun ls hl => ?_)
  have loop_4 : ∀ (n : Nat) (v8_1 : Int32), bd 0 880 v8_1 → (880 - v8_1.toInt < (n : Int)) → ∀ (f : Nat → va_E) (H : Heap) (locs : List Loc) (ls : Array Slot), G3 (dC, dI) L kd tys s f0 [] [] f H locs [(14, 17, a0_, .int x_1)] → lv_has ls 2 [(1, .int v8_1), (0, .ref a0_)] → W p l e ({ frames := 0, cells := 0, slots := 0, locals := 0 } : Room) s m [.ref a0_].toArray below meth c H locs 0 0 Q (F0 m 8 ls []) := by
    intro n8
    induction n8 with
    | zero =>
      intro v8_1 bv8_1 hm8 f H locs ls g  hl
      exact absurd hm8 (by have h9_v8_1 := bv8_1; unfold bd at h9_v8_1; omega)
    | succ n8 ih8 =>
      intro v8_1 bv8_1 hm8 f H locs ls g  hl
      refine lv_iload_n hx hb dX14_hasOnly_8 rfl (lv_at hl 0 rfl) ?_
      refine lv_bipush (v := 8) hx hb dX14_hasOnly_9 (by decide) ?_
      refine lv_aload_n hx hb dX14_hasOnly_11 rfl (lv_at hl 1 rfl) ?_
      refine g_getk (C := RX14) (T := TX14) (N := 67) hx hb hts (mc_ inX14) hown hK g rfl 17 (by decide) rfl (hts _ (List.mem_cons_of_mem _ t_2163)) (fun _ h9 => h9) 0 rfl dX14_hasOnly_12 ?_
      refine lv_imul hx hb dX14_hasOnly_15 ?_
      refine lv_topi (fun y_5 ey_5 => ?_)
      obtain rfl : y_2 = y_5 := ey_2.trans ey_5.symm
      refine lv_aload_n hx hb dX14_hasOnly_16 rfl (lv_at hl 1 rfl) ?_
      refine g_getr (K := 12) (C := RX14) (T := TX14) (N := 67) hx hb hts (mc_ inX14) hown hK g ma0_ ka0_ (by decide) rfl 2 (by decide) rfl (hts _ (List.mem_cons_of_mem _ t_2148)) (fun _ h9 => h9) rfl dX14_hasOnly_17 (fun a_6 ma_6 ka_6 g => ?_)
      refine g_getr (K := 178) (C := RX12) (T := TX12) (N := 60) hx hb hts (mc_ inX12) hown hK g ma_6 ka_6 (by decide) rfl 22 (by decide) rfl (hts _ (List.mem_cons_of_mem _ t_1950)) (fun _ h9 => h9) rfl dX14_hasOnly_20 (fun a_7 ma_7 ka_7 g => ?_)
      refine lv_aload_n hx hb dX14_hasOnly_23 rfl (lv_at hl 1 rfl) ?_
      refine g_getk (C := RX14) (T := TX14) (N := 67) hx hb hts (mc_ inX14) hown hK g rfl 17 (by decide) rfl (hts _ (List.mem_cons_of_mem _ t_2163)) (fun _ h9 => h9) 2 rfl dX14_hasOnly_24 ?_
      refine g_iald hx hb hK g ma_7 ka_7 (by decide) rfl (in_bd bx_1 (by decide)) dX14_hasOnly_27 (fun x_8 bx_8 cx_8 => ?_)
      refine lv_iadd hx hb dX14_hasOnly_28 ?_
      refine lv_topi (fun y_9 ey_9 => ?_)
      have ty_9 := add_bd ey_9 b_3 bx_8 (by decide)
      have b_10 : bd 0 880 y_9 := add_rg ty_9 b_3 bx_8 (by decide)
      refine lv_icmp_ge (tgt := 54) hx hb dX14_hasOnly_29 (by decide) (fun c_11 => ?_) (fun c_11 => ?_)
      · have fc_11 := le_f c_11
        refine lv_iconst (v := 0) hx hb dX14_hasOnly_54 (by decide) ?_
        subst hQ
        have kb_0 : bd 0 0 (0 : Int32) := ⟨by decide, by decide⟩
        exact W.zret (v := 0) hx hb hr (nar_z (bd_sub kb_0 (by decide) : bd 0 1 _).1 (bd_sub kb_0 (by decide) : bd 0 1 _).2) (fun t ht hW => ⟨⟨_, _, rfl, Or.inl ⟨rfl, trivial⟩, q3_of g hK ht hW⟩, g.2.2.1.F ht⟩) g.2.2.1.2.2 dX14_hasOnly_55
      · have fc_11 := nle_f c_11
        have b_12 : bd 0 879 v8_1 := ltL fc_11 bv8_1 b_10 (by decide)
        have b_13 : bd 1 880 y_9 := ltR fc_11 bv8_1 b_10 (by decide)
        refine lv_aload_n hx hb dX14_hasOnly_32 rfl (lv_at hl 1 rfl) ?_
        refine g_getk (C := RX14) (T := TX14) (N := 67) hx hb hts (mc_ inX14) hown hK g rfl 2 (by decide) rfl (hts _ (List.mem_cons_of_mem _ t_2148)) (fun _ h9 => h9) 1 rfl dX14_hasOnly_33 ?_
        refine g_getr (K := 183) (C := RX12) (T := TX12) (N := 60) hx hb hts (mc_ inX12) hown hK g ma_6 ka_6 (by decide) rfl 28 (by decide) rfl (hts _ (List.mem_cons_of_mem _ t_1961)) (fun _ h9 => h9) rfl dX14_hasOnly_36 (fun a_14 ma_14 ka_14 g => ?_)
        refine lv_iload_n hx hb dX14_hasOnly_39 rfl (lv_at hl 0 rfl) ?_
        refine g_iald hx hb hK g ma_14 ka_14 (by decide) rfl (in_bd b_12 (by decide)) dX14_hasOnly_40 (fun x_15 bx_15 cx_15 => ?_)
        refine lv_bipush (v := 6) hx hb dX14_hasOnly_41 (by decide) ?_
        have kb_6 : bd 6 6 (6 : Int32) := ⟨by decide, by decide⟩
        refine lv_icmp_ne (tgt := 48) hx hb dX14_hasOnly_43 (by decide) (fun c_16 => ?_) (fun c_16 => ?_)
        · have fc_16 := neq_f c_16
          have kb_1 : bd 1 1 (1 : Int32) := ⟨by decide, by decide⟩
          obtain ⟨y_17, ey_17⟩ : ∃ z : Int32, z = v8_1 + 1 := ⟨_, rfl⟩
          refine lv_iinc (v := y_17) (lv' := [(1, .int y_17), (0, .ref a0_)]) hx hb dX14_hasOnly_48 hl (k := 0) rfl (by rw [ey_17]; rfl) (by decide) rfl (fun ls hl => ?_)
          have ty_17 := add_bd ey_17 b_12 kb_1 (by decide)
          have b_18 : bd 1 880 y_17 := add_rg ty_17 b_12 kb_1 (by decide)
          refine lv_goto (tgt := 8) hx hb dX14_hasOnly_51 (by decide) ?_
          have hl9 := lv_sub hl [0, 1] (by rfl : lv_pick [(1, .int y_17), (0, .ref a0_)] [0, 1] = [(1, .int y_17), (0, .ref a0_)])
          have g9 := g.sub (fx' := [(14, 17, a0_, .int x_1)]) [3] rfl
          exact ih8  y_17 (bd_sub b_18 (by decide)) (by have h9_0 := b_18; unfold bd at h9_0; have h9_1 := bv8_1; unfold bd at h9_1; have h9_2 := kb_1; unfold bd at h9_2; have h9_3 := kb_6; unfold bd at h9_3; omega) _ _ _ _ g9  hl9
        · have fc_16 := eq_f c_16
          have b_19 : bd 6 6 x_15 := eqX fc_16 (bdT x_15) kb_6 (by decide)
          refine lv_iconst (v := 1) hx hb dX14_hasOnly_46 (by decide) ?_
          subst hQ
          have kb_1 : bd 1 1 (1 : Int32) := ⟨by decide, by decide⟩
          exact W.zret (v := 1) hx hb hr (nar_z (bd_sub kb_1 (by decide) : bd 0 1 _).1 (bd_sub kb_1 (by decide) : bd 0 1 _).2) (fun t ht hW => ⟨⟨_, _, rfl, Or.inr (⟨rfl, trivial⟩), q3_of g hK ht hW⟩, g.2.2.1.F ht⟩) g.2.2.1.2.2 dX14_hasOnly_47
  have hl9 := lv_sub hl [0, 1] (by rfl : lv_pick [(1, .int y_2), (0, .ref a0_)] [0, 1] = [(1, .int y_2), (0, .ref a0_)])
  have g9 := g.sub (fx' := [(14, 17, a0_, .int x_1)]) [0] rfl
  exact loop_4 (1763) y_2 (bd_sub b_3 (by decide)) (by have h9_0 := b_3; unfold bd at h9_0; omega) _ _ _ _ g9  hl9
set_option maxHeartbeats 4000000 in
set_option maxRecDepth 100000 in
theorem r_X14_classOf (l : Launch) (dC : Nat → ClassId) (dI : Nat → Nat → Nat) (L : List Nat) (kd : Nat → Nat) (tys : List (ClassId × FieldType)) (f0 : Nat → va_E) (sz : Nat) (hWT : WT L kd tys f0) (a0_ : Nat) (ma0_ : a0_ ∈ L) (ka0_ : kd a0_ = 14) (x1_ : Int64) (x2_ : Int64) : Met l yX14_classOf (.code yX14_classOf cX14_classOf 6 (some .int) :: lw_g) ({ frames := 0, cells := 0, slots := 0, locals := 0 }) (va_Pc [.ref a0_, .long x1_, .long x2_] (P3 (dC, dI) L tys f0 sz)) (va_Qi (fun (r : Int32) (f : Nat → va_E) => (bd (-1) 7 r ∧ True)) (Q3 (dC, dI) L kd tys [] [] f0 sz) (pA L sz)) 0 0 (pA L sz) := by
  refine Met.ofW (cc := cX14_classOf) (maxL := 6) (ret := (some .int)) (by decide) rfl ?_
  intro p e s m args below meth c s₁ B hml hv
  obtain ⟨rfl, hsz, hP, hK, hD0⟩ := hv
  have hx := B.exec
  have hb := B.bytes
  have hr := B.returns
  have hts := atoms_spec (ws := (.code yX14_classOf cX14_classOf 6 (some .int) :: lw_g)) B.pre
  have hown : s.vm.findClass RX14 = some m.cls := findClass_of_methodNamed B.named
  have hlocks := B.notSynchronized
  subst hsz
  have g : G3 (dC, dI) L kd tys s f0 [] [] f0 s.heap [] [] := G3.start hP hD0 hWT Fs.nil
  have hl := lv_entry ([.ref a0_, .long x1_, .long x2_]) (n := 6) (Nat.le_of_ble_eq_true rfl)
  rw [lg_entry_eq]
  generalize (lg_sl ([.ref a0_, .long x1_, .long x2_]) ++ List.replicate (6 - (lg_sl ([.ref a0_, .long x1_, .long x2_])).length) Slot.unset).toArray = ls at hl ⊢
  have hl : lv_has ls 6 [(0, .ref a0_), (1, .long x1_), (3, .long x2_)] := hl
  refine W_q (fun Q hQ => ?_)
  refine lv_iconst (v := 0) hx hb dX14_classOf_0 (by decide) ?_
  refine lv_istore (lv' := [(5, .int 0), (0, .ref a0_), (1, .long x1_), (3, .long x2_)]) hx hb dX14_classOf_1 hl (by decide) rfl (fun ls hl => ?_)
  have loop_1 : ∀ (n : Nat) (v3_5 : Int32), bd 0 8 v3_5 → (8 - v3_5.toInt < (n : Int)) → ∀ (f : Nat → va_E) (H : Heap) (locs : List Loc) (ls : Array Slot), G3 (dC, dI) L kd tys s f0 [] [] f H locs [] → lv_has ls 6 [(5, .int v3_5), (0, .ref a0_), (1, .long x1_), (3, .long x2_)] → W p l e ({ frames := 0, cells := 0, slots := 0, locals := 0 } : Room) s m [.ref a0_, .long x1_, .long x2_].toArray below meth c H locs 0 0 Q (F0 m 3 ls []) := by
    intro n3
    induction n3 with
    | zero =>
      intro v3_5 bv3_5 hm3 f H locs ls g  hl
      exact absurd hm3 (by have h9_v3_5 := bv3_5; unfold bd at h9_v3_5; omega)
    | succ n3 ih3 =>
      intro v3_5 bv3_5 hm3 f H locs ls g  hl
      refine lv_iload hx hb dX14_classOf_3 (lv_at hl 0 rfl) ?_
      refine lv_aload_n hx hb dX14_classOf_5 rfl (lv_at hl 1 rfl) ?_
      refine g_getr (K := 12) (C := RX14) (T := TX14) (N := 67) hx hb hts (mc_ inX14) hown hK g ma0_ ka0_ (by decide) rfl 2 (by decide) rfl (hts _ (List.mem_cons_of_mem _ t_2148)) (fun _ h9 => h9) rfl dX14_classOf_6 (fun a_2 ma_2 ka_2 g => ?_)
      refine g_geti (C := RX12) (T := TX12) (N := 60) hx hb hts (mc_ inX12) hown hK g ma_2 ka_2 (by decide) rfl 0 (by decide) rfl (hts _ (List.mem_cons_of_mem _ t_1906)) (fun _ h9 => h9) rfl dX14_classOf_9 (fun x_3 bx_3 g => ?_)
      refine lv_icmp_ge (tgt := 54) hx hb dX14_classOf_12 (by decide) (fun c_4 => ?_) (fun c_4 => ?_)
      · have fc_4 := le_f c_4
        refine lv_iconst (v := (-1)) hx hb dX14_classOf_54 (by decide) ?_
        have kb_m1 : bd (-1) (-1) ((-1) : Int32) := ⟨by decide, by decide⟩
        subst hQ
        exact W.iret (v := (-1)) hx hb hr (fun t ht hW => ⟨⟨_, _, rfl, ⟨(bd_sub kb_m1 (by decide)), trivial⟩, q3_of g hK ht hW⟩, g.2.2.1.F ht⟩) g.2.2.1.2.2 dX14_classOf_55
      · have fc_4 := nle_f c_4
        have b_5 : bd 0 7 v3_5 := ltL fc_4 bv3_5 bx_3 (by decide)
        have b_6 : bd 1 8 x_3 := ltR fc_4 bv3_5 bx_3 (by decide)
        refine lv_aload_n hx hb dX14_classOf_15 rfl (lv_at hl 1 rfl) ?_
        refine g_getk (C := RX14) (T := TX14) (N := 67) hx hb hts (mc_ inX14) hown hK g rfl 2 (by decide) rfl (hts _ (List.mem_cons_of_mem _ t_2148)) (fun _ h9 => h9) 1 rfl dX14_classOf_16 ?_
        refine g_getr (K := 157) (C := RX12) (T := TX12) (N := 60) hx hb hts (mc_ inX12) hown hK g ma_2 ka_2 (by decide) rfl 1 (by decide) rfl (hts _ (List.mem_cons_of_mem _ t_1908)) (fun _ h9 => h9) rfl dX14_classOf_19 (fun a_7 ma_7 ka_7 g => ?_)
        refine lv_iload hx hb dX14_classOf_22 (lv_at hl 0 rfl) ?_
        refine g_lald hx hb hK g ma_7 ka_7 (by decide) rfl (in_bd b_5 (by decide)) dX14_classOf_24 (fun x_8 => ?_)
        refine lv_lload_n hx hb dX14_classOf_25 rfl (lv_at hl 2 rfl) ?_
        refine W.lcmp hx hb dX14_classOf_26 ?_
        refine lv_if_ne (tgt := 48) hx hb dX14_classOf_27 (by decide) (fun c_9 => ?_) (fun c_9 => ?_)
        · have kb_1 : bd 1 1 (1 : Int32) := ⟨by decide, by decide⟩
          obtain ⟨y_10, ey_10⟩ : ∃ z : Int32, z = v3_5 + 1 := ⟨_, rfl⟩
          refine lv_iinc (v := y_10) (lv' := [(5, .int y_10), (0, .ref a0_), (1, .long x1_), (3, .long x2_)]) hx hb dX14_classOf_48 hl (k := 0) rfl (by rw [ey_10]; rfl) (by decide) rfl (fun ls hl => ?_)
          have ty_10 := add_bd ey_10 b_5 kb_1 (by decide)
          have b_11 : bd 1 8 y_10 := add_rg ty_10 b_5 kb_1 (by decide)
          refine lv_goto (tgt := 3) hx hb dX14_classOf_51 (by decide) ?_
          have hl9 := lv_sub hl [0, 1, 2, 3] (by rfl : lv_pick [(5, .int y_10), (0, .ref a0_), (1, .long x1_), (3, .long x2_)] [0, 1, 2, 3] = [(5, .int y_10), (0, .ref a0_), (1, .long x1_), (3, .long x2_)])
          have g9 := g.sub (fx' := []) [] rfl
          exact ih3  y_10 (bd_sub b_11 (by decide)) (by have h9_0 := b_11; unfold bd at h9_0; have h9_1 := bv3_5; unfold bd at h9_1; have h9_2 := kb_1; unfold bd at h9_2; omega) _ _ _ _ g9  hl9
        · refine lv_aload_n hx hb dX14_classOf_30 rfl (lv_at hl 1 rfl) ?_
          refine g_getk (C := RX14) (T := TX14) (N := 67) hx hb hts (mc_ inX14) hown hK g rfl 2 (by decide) rfl (hts _ (List.mem_cons_of_mem _ t_2148)) (fun _ h9 => h9) 2 rfl dX14_classOf_31 ?_
          refine g_getr (K := 158) (C := RX12) (T := TX12) (N := 60) hx hb hts (mc_ inX12) hown hK g ma_2 ka_2 (by decide) rfl 2 (by decide) rfl (hts _ (List.mem_cons_of_mem _ t_1910)) (fun _ h9 => h9) rfl dX14_classOf_34 (fun a_12 ma_12 ka_12 g => ?_)
          refine lv_iload hx hb dX14_classOf_37 (lv_at hl 0 rfl) ?_
          refine g_lald hx hb hK g ma_12 ka_12 (by decide) rfl (in_bd b_5 (by decide)) dX14_classOf_39 (fun x_13 => ?_)
          refine lv_lload_n hx hb dX14_classOf_40 rfl (lv_at hl 3 rfl) ?_
          refine W.lcmp hx hb dX14_classOf_41 ?_
          refine lv_if_ne (tgt := 48) hx hb dX14_classOf_42 (by decide) (fun c_14 => ?_) (fun c_14 => ?_)
          · have kb_1 : bd 1 1 (1 : Int32) := ⟨by decide, by decide⟩
            obtain ⟨y_15, ey_15⟩ : ∃ z : Int32, z = v3_5 + 1 := ⟨_, rfl⟩
            refine lv_iinc (v := y_15) (lv' := [(5, .int y_15), (0, .ref a0_), (1, .long x1_), (3, .long x2_)]) hx hb dX14_classOf_48 hl (k := 0) rfl (by rw [ey_15]; rfl) (by decide) rfl (fun ls hl => ?_)
            have ty_15 := add_bd ey_15 b_5 kb_1 (by decide)
            have b_16 : bd 1 8 y_15 := add_rg ty_15 b_5 kb_1 (by decide)
            refine lv_goto (tgt := 3) hx hb dX14_classOf_51 (by decide) ?_
            have hl9 := lv_sub hl [0, 1, 2, 3] (by rfl : lv_pick [(5, .int y_15), (0, .ref a0_), (1, .long x1_), (3, .long x2_)] [0, 1, 2, 3] = [(5, .int y_15), (0, .ref a0_), (1, .long x1_), (3, .long x2_)])
            have g9 := g.sub (fx' := []) [] rfl
            exact ih3  y_15 (bd_sub b_16 (by decide)) (by have h9_0 := b_16; unfold bd at h9_0; have h9_1 := bv3_5; unfold bd at h9_1; have h9_2 := kb_1; unfold bd at h9_2; omega) _ _ _ _ g9  hl9
          · refine lv_iload hx hb dX14_classOf_45 (lv_at hl 0 rfl) ?_
            subst hQ
            exact W.iret (v := v3_5) hx hb hr (fun t ht hW => ⟨⟨_, _, rfl, ⟨(bd_sub b_5 (by decide)), trivial⟩, q3_of g hK ht hW⟩, g.2.2.1.F ht⟩) g.2.2.1.2.2 dX14_classOf_47
  have kb_0 : bd 0 0 (0 : Int32) := ⟨by decide, by decide⟩
  have hl9 := lv_sub hl [0, 1, 2, 3] (by rfl : lv_pick [(5, .int 0), (0, .ref a0_), (1, .long x1_), (3, .long x2_)] [0, 1, 2, 3] = [(5, .int 0), (0, .ref a0_), (1, .long x1_), (3, .long x2_)])
  have g9 := g.sub (fx' := []) [] rfl
  exact loop_1 (19) 0 (bd_sub kb_0 (by decide)) (by have h9_0 := kb_0; unfold bd at h9_0; omega) _ _ _ _ g9  hl9
