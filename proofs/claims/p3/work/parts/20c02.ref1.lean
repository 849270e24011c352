set_option maxHeartbeats 4000000 in
set_option maxRecDepth 100000 in
theorem r_X14_throwsWord (l : Launch) (dC : Nat → ClassId) (dI : Nat → Nat → Nat) (L : List Nat) (kd : Nat → Nat) (tys : List (ClassId × FieldType)) (f0 : Nat → va_E) (sz : Nat) (hWT : WT L kd tys f0) (a0_ : Nat) (ma0_ : a0_ ∈ L) (ka0_ : kd a0_ = 14) (x1_ : Int64) (x2_ : Int64) : MetE l yX14_throwsWord (.code yX14_throwsWord cX14_throwsWord 5 none :: lw_g) ({ frames := 1, cells := 0, slots := 0, locals := 21 }) (va_Pc [.ref a0_, .long x1_, .long x2_] (P3 (dC, dI) L tys f0 sz)) (q3E (dC, dI) L kd tys [(14, 31), (14, 32), (14, 33), (14, 39), (14, 40)] [] f0 sz (pRv (fun (f : Nat → va_E) => False)) (fun (f : Nat → va_E) => True)) 0 0 (pA L sz) := by
  refine MetE.ofW (cc := cX14_throwsWord) (maxL := 5) (ret := none) (by decide) rfl ?_
  intro p e s m args below meth c s₁ B hml hempty hv
  obtain ⟨rfl, hsz, hP, hK, hD0⟩ := hv
  have hx := B.exec
  have hb := B.bytes
  have hr := B.returns
  have hts := atoms_spec (ws := (.code yX14_throwsWord cX14_throwsWord 5 none :: lw_g)) B.pre
  have hown : s.vm.findClass RX14 = some m.cls := findClass_of_methodNamed B.named
  have hlocks := B.notSynchronized
  subst hsz
  have g : G3 (dC, dI) L kd tys s f0 [(14, 31), (14, 32), (14, 33), (14, 39), (14, 40)] [] f0 s.heap [] [] := G3.start hP hD0 hWT Fs.nil
  have hl := lv_entry ([.ref a0_, .long x1_, .long x2_]) (n := 5) (Nat.le_of_ble_eq_true rfl)
  rw [lg_entry_eq]
  generalize (lg_sl ([.ref a0_, .long x1_, .long x2_]) ++ List.replicate (5 - (lg_sl ([.ref a0_, .long x1_, .long x2_])).length) Slot.unset).toArray = ls at hl ⊢
  have hl : lv_has ls 5 [(0, .ref a0_), (1, .long x1_), (3, .long x2_)] := hl
  refine W_q (fun Q hQ => ?_)
  refine lv_aload_n hx hb dX14_throwsWord_0 rfl (lv_at hl 0 rfl) ?_
  refine lv_lload_n hx hb dX14_throwsWord_1 rfl (lv_at hl 1 rfl) ?_
  refine g_put (C := RX14) (T := TX14) (N := 67) hx hb hts (mc_ inX14) tyX14 tyX14_ok nmX14 hown hK g ma0_ ka0_ (by decide) rfl 32 (by decide) (hts _ (List.mem_cons_of_mem _ t_2178)) (fun _ h9 => h9) rfl rfl okV_l rfl rfl (by decide) (Or.inr (Or.inl (by decide))) (fx' := []) rfl dX14_throwsWord_2 (fun f H locs hM_1 g => ?_)
  refine lv_aload_n hx hb dX14_throwsWord_5 rfl (lv_at hl 0 rfl) ?_
  refine lv_lload_n hx hb dX14_throwsWord_6 rfl (lv_at hl 2 rfl) ?_
  refine g_put (C := RX14) (T := TX14) (N := 67) hx hb hts (mc_ inX14) tyX14 tyX14_ok nmX14 hown hK g ma0_ ka0_ (by decide) rfl 33 (by decide) (hts _ (List.mem_cons_of_mem _ t_2179)) (fun _ h9 => h9) rfl rfl okV_l rfl rfl (by decide) (Or.inr (Or.inl (by decide))) (fx' := [(14, 32, a0_, .long x1_)]) rfl dX14_throwsWord_7 (fun f H locs hM_2 g => ?_)
  refine lv_aload_n hx hb dX14_throwsWord_10 rfl (lv_at hl 0 rfl) ?_
  refine lv_lload_n hx hb dX14_throwsWord_11 rfl (lv_at hl 1 rfl) ?_
  refine g_put (C := RX14) (T := TX14) (N := 67) hx hb hts (mc_ inX14) tyX14 tyX14_ok nmX14 hown hK g ma0_ ka0_ (by decide) rfl 39 (by decide) (hts _ (List.mem_cons_of_mem _ t_2185)) (fun _ h9 => h9) rfl rfl okV_l rfl rfl (by decide) (Or.inr (Or.inl (by decide))) (fx' := [(14, 33, a0_, .long x2_), (14, 32, a0_, .long x1_)]) rfl dX14_throwsWord_12 (fun f H locs hM_3 g => ?_)
  refine lv_aload_n hx hb dX14_throwsWord_15 rfl (lv_at hl 0 rfl) ?_
  refine lv_lload_n hx hb dX14_throwsWord_16 rfl (lv_at hl 2 rfl) ?_
  refine g_put (C := RX14) (T := TX14) (N := 67) hx hb hts (mc_ inX14) tyX14 tyX14_ok nmX14 hown hK g ma0_ ka0_ (by decide) rfl 40 (by decide) (hts _ (List.mem_cons_of_mem _ t_2186)) (fun _ h9 => h9) rfl rfl okV_l rfl rfl (by decide) (Or.inr (Or.inl (by decide))) (fx' := [(14, 39, a0_, .long x1_), (14, 33, a0_, .long x2_), (14, 32, a0_, .long x1_)]) rfl dX14_throwsWord_17 (fun f H locs hM_4 g => ?_)
  refine lv_aload_n hx hb dX14_throwsWord_20 rfl (lv_at hl 0 rfl) ?_
  refine lv_iconst (v := 1) hx hb dX14_throwsWord_21 (by decide) ?_
  refine g_callEv (As := [.int 1]) (rest := []) ⟨hx, hb, hml, hown, hts⟩ (r_X14_ends l dC dI L kd tys f H.size g.2.2.2.1 a0_ ma0_ ka0_ 1) (cwV 1 hts (gV_ t_2651 t_2653 t_150 t_198 t_2654) rfl rfl rfl (by decide +kernel) ⟨(Nat.le_of_ble_eq_true rfl), (Nat.le_of_ble_eq_true rfl)⟩) (pre3V g hK ma0_ ka0_ (by decide) (q := (RX14, TX14, 67)) rfl) rfl hl.1 rfl (lv_room (Nat.le_of_ble_eq_true rfl)) dX14_throwsWord_22 ⟨(Nat.le_of_ble_eq_true rfl), (Nat.le_of_ble_eq_true rfl)⟩ g hK (by decide) (by decide) (fx' := [(14, 40, a0_, .long x2_), (14, 39, a0_, .long x1_), (14, 33, a0_, .long x2_), (14, 32, a0_, .long x1_)]) rfl (fun xr_5 fr_5 H locs mxr_5 kxr_5 hp hMr_5 g => ?_) (fun fr_5 H locs hp hMr_5 g => ?_)
  · subst hQ
    exact WX.leaves hempty hlocks (fun t ht hW => g_thrE g hK mxr_5 kxr_5 trivial ht hW) g.2.2.1.2.2
  · exact hp.elim
set_option maxHeartbeats 4000000 in
set_option maxRecDepth 100000 in
theorem r_X14_nothingTold (l : Launch) (dC : Nat → ClassId) (dI : Nat → Nat → Nat) (L : List Nat) (kd : Nat → Nat) (tys : List (ClassId × FieldType)) (f0 : Nat → va_E) (sz : Nat) (hWT : WT L kd tys f0) (a0_ : Nat) (ma0_ : a0_ ∈ L) (ka0_ : kd a0_ = 14) : Met l yX14_nothingTold (.code yX14_nothingTold cX14_nothingTold 2 none :: lw_g) ({ frames := 0, cells := 0, slots := 0, locals := 0 }) (va_Pc [.ref a0_] (P3 (dC, dI) L tys f0 sz)) (va_Qv (fun (f : Nat → va_E) => (True)) (Q3 (dC, dI) L kd tys [] [228, 229] f0 sz) (pA L sz)) 0 0 (pA L sz) := by
  refine Met.ofW (cc := cX14_nothingTold) (maxL := 2) (ret := none) (by decide) rfl ?_
  intro p e s m args below meth c s₁ B hml hv
  obtain ⟨rfl, hsz, hP, hK, hD0⟩ := hv
  have hx := B.exec
  have hb := B.bytes
  have hr := B.returns
  have hts := atoms_spec (ws := (.code yX14_nothingTold cX14_nothingTold 2 none :: lw_g)) B.pre
  have hown : s.vm.findClass RX14 = some m.cls := findClass_of_methodNamed B.named
  have hlocks := B.notSynchronized
  subst hsz
  have g : G3 (dC, dI) L kd tys s f0 [] [228, 229] f0 s.heap [] [] := G3.start hP hD0 hWT Fs.nil
  have hl := lv_entry ([.ref a0_]) (n := 2) (Nat.le_of_ble_eq_true rfl)
  rw [lg_entry_eq]
  generalize (lg_sl ([.ref a0_]) ++ List.replicate (2 - (lg_sl ([.ref a0_])).length) Slot.unset).toArray = ls at hl ⊢
  have hl : lv_has ls 2 [(0, .ref a0_)] := hl
  refine W_q (fun Q hQ => ?_)
  refine lv_iconst (v := 0) hx hb dX14_nothingTold_0 (by decide) ?_
  refine lv_istore_n (lv' := [(1, .int 0), (0, .ref a0_)]) hx hb dX14_nothingTold_1 rfl hl (by decide) rfl (fun ls hl => ?_)
  have loop_1 : ∀ (n : Nat) (v2_1 : Int32), bd 0 4 v2_1 → (4 - v2_1.toInt < (n : Int)) → ∀ (f : Nat → va_E) (H : Heap) (locs : List Loc) (ls : Array Slot), G3 (dC, dI) L kd tys s f0 [] [228, 229] f H locs [] → lv_has ls 2 [(1, .int v2_1), (0, .ref a0_)] → W p l e ({ frames := 0, cells := 0, slots := 0, locals := 0 } : Room) s m [.ref a0_].toArray below meth c H locs 0 0 Q (F0 m 2 ls []) := by
    intro n2
    induction n2 with
    | zero =>
      intro v2_1 bv2_1 hm2 f H locs ls g  hl
      exact absurd hm2 (by have h9_v2_1 := bv2_1; unfold bd at h9_v2_1; omega)
    | succ n2 ih2 =>
      intro v2_1 bv2_1 hm2 f H locs ls g  hl
      refine lv_iload_n hx hb dX14_nothingTold_2 rfl (lv_at hl 0 rfl) ?_
      refine lv_iconst (v := 4) hx hb dX14_nothingTold_3 (by decide) ?_
      have kb_4 : bd 4 4 (4 : Int32) := ⟨by decide, by decide⟩
      refine lv_icmp_ge (tgt := 20) hx hb dX14_nothingTold_4 (by decide) (fun c_2 => ?_) (fun c_2 => ?_)
      · have fc_2 := le_f c_2
        have b_3 : bd 4 4 v2_1 := leR fc_2 kb_4 bv2_1 (by decide)
        refine lv_aload_n hx hb dX14_nothingTold_20 rfl (lv_at hl 1 rfl) ?_
        refine g_getr (K := 229) (C := RX14) (T := TX14) (N := 67) hx hb hts (mc_ inX14) hown hK g ma0_ ka0_ (by decide) rfl 57 (by decide) rfl (hts _ (List.mem_cons_of_mem _ t_2203)) (fun _ h9 => h9) rfl dX14_nothingTold_21 (fun a_4 ma_4 ka_4 g => ?_)
        refine lv_iconst (v := 0) hx hb dX14_nothingTold_24 (by decide) ?_
        refine lv_iconst (v := (-1)) hx hb dX14_nothingTold_25 (by decide) ?_
        have kb_m1 : bd (-1) (-1) ((-1) : Int32) := ⟨by decide, by decide⟩
        refine g_iast hx hb hK g ma_4 ka_4 (by decide) rfl (by unfold vp_in; decide) (bd_sub kb_m1 (by decide)) (by decide) dX14_nothingTold_26 (fun f H locs hM_5 g => ?_)
        refine lv_aload_n hx hb dX14_nothingTold_27 rfl (lv_at hl 1 rfl) ?_
        refine g_getk (C := RX14) (T := TX14) (N := 67) hx hb hts (mc_ inX14) hown hK g rfl 57 (by decide) rfl (hts _ (List.mem_cons_of_mem _ t_2203)) (fun _ h9 => h9) 0 rfl dX14_nothingTold_28 ?_
        refine lv_iconst (v := 1) hx hb dX14_nothingTold_31 (by decide) ?_
        refine lv_iconst (v := (-1)) hx hb dX14_nothingTold_32 (by decide) ?_
        refine g_iast hx hb hK g ma_4 ka_4 (by decide) rfl (by unfold vp_in; decide) (bd_sub kb_m1 (by decide)) (by decide) dX14_nothingTold_33 (fun f H locs hM_6 g => ?_)
        subst hQ
        exact W.vret hx hb hr (fun t ht hW => ⟨⟨_, rfl, trivial, q3_of g hK ht hW⟩, g.2.2.1.F ht⟩) g.2.2.1.2.2 dX14_nothingTold_34
      · have fc_2 := nle_f c_2
        have b_7 : bd 0 3 v2_1 := ltL fc_2 bv2_1 kb_4 (by decide)
        refine lv_aload_n hx hb dX14_nothingTold_7 rfl (lv_at hl 1 rfl) ?_
        refine g_getr (K := 228) (C := RX14) (T := TX14) (N := 67) hx hb hts (mc_ inX14) hown hK g ma0_ ka0_ (by decide) rfl 56 (by decide) rfl (hts _ (List.mem_cons_of_mem _ t_2202)) (fun _ h9 => h9) rfl dX14_nothingTold_8 (fun a_8 ma_8 ka_8 g => ?_)
        refine lv_iload_n hx hb dX14_nothingTold_11 rfl (lv_at hl 0 rfl) ?_
        refine lv_iconst (v := (-1)) hx hb dX14_nothingTold_12 (by decide) ?_
        have kb_m1 : bd (-1) (-1) ((-1) : Int32) := ⟨by decide, by decide⟩
        refine g_iast hx hb hK g ma_8 ka_8 (by decide) rfl (in_bd b_7 (by decide)) (bd_sub kb_m1 (by decide)) (by decide) dX14_nothingTold_13 (fun f H locs hM_9 g => ?_)
        have kb_1 : bd 1 1 (1 : Int32) := ⟨by decide, by decide⟩
        obtain ⟨y_10, ey_10⟩ : ∃ z : Int32, z = v2_1 + 1 := ⟨_, rfl⟩
        refine lv_iinc (v := y_10) (lv' := [(1, .int y_10), (0, .ref a0_)]) hx hb dX14_nothingTold_14 hl (k := 0) rfl (by rw [ey_10]; rfl) (by decide) rfl (fun ls hl => ?_)
        have ty_10 := add_bd ey_10 b_7 kb_1 (by decide)
        have b_11 : bd 1 4 y_10 := add_rg ty_10 b_7 kb_1 (by decide)
        refine lv_goto (tgt := 2) hx hb dX14_nothingTold_17 (by decide) ?_
        have hl9 := lv_sub hl [0, 1] (by rfl : lv_pick [(1, .int y_10), (0, .ref a0_)] [0, 1] = [(1, .int y_10), (0, .ref a0_)])
        have g9 := g.sub (fx' := []) [] rfl
        exact ih2  y_10 (bd_sub b_11 (by decide)) (by have h9_0 := b_11; unfold bd at h9_0; have h9_1 := bv2_1; unfold bd at h9_1; have h9_2 := kb_1; unfold bd at h9_2; have h9_3 := kb_4; unfold bd at h9_3; have h9_4 := kb_m1; unfold bd at h9_4; omega) _ _ _ _ g9  hl9
  have kb_0 : bd 0 0 (0 : Int32) := ⟨by decide, by decide⟩
  have hl9 := lv_sub hl [0, 1] (by rfl : lv_pick [(1, .int 0), (0, .ref a0_)] [0, 1] = [(1, .int 0), (0, .ref a0_)])
  have g9 := g.sub (fx' := []) [] rfl
  exact loop_1 (11) 0 (bd_sub kb_0 (by decide)) (by have h9_0 := kb_0; unfold bd at h9_0; omega) _ _ _ _ g9  hl9
set_option maxHeartbeats 4000000 in
set_option maxRecDepth 100000 in
theorem r_X14_untold (l : Launch) (dC : Nat → ClassId) (dI : Nat → Nat → Nat) (L : List Nat) (kd : Nat → Nat) (tys : List (ClassId × FieldType)) (f0 : Nat → va_E) (sz : Nat) (hWT : WT L kd tys f0) (a0_ : Nat) (ma0_ : a0_ ∈ L) (ka0_ : kd a0_ = 14) : Met l yX14_untold (.code yX14_untold cX14_untold 1 none :: lw_g) ({ frames := 1, cells := 0, slots := 0, locals := 21 }) (va_Pc [.ref a0_] (P3 (dC, dI) L tys f0 sz)) (va_Qv (fun (f : Nat → va_E) => (Fs L kd f [(14, 30, a0_, .int 0), (14, 55, a0_, .int 0)])) (Q3 (dC, dI) L kd tys [(14, 30), (14, 39), (14, 40), (14, 55)] [228, 229] f0 sz) (pA L sz)) 0 0 (pA L sz) := by
  refine Met.ofW (cc := cX14_untold) (maxL := 1) (ret := none) (by decide) rfl ?_
  intro p e s m args below meth c s₁ B hml hv
  obtain ⟨rfl, hsz, hP, hK, hD0⟩ := hv
  have hx := B.exec
  have hb := B.bytes
  have hr := B.returns
  have hts := atoms_spec (ws := (.code yX14_untold cX14_untold 1 none :: lw_g)) B.pre
  have hown : s.vm.findClass RX14 = some m.cls := findClass_of_methodNamed B.named
  have hlocks := B.notSynchronized
  subst hsz
  have g : G3 (dC, dI) L kd tys s f0 [(14, 30), (14, 39), (14, 40), (14, 55)] [228, 229] f0 s.heap [] [] := G3.start hP hD0 hWT Fs.nil
  have hl := lv_entry ([.ref a0_]) (n := 1) (Nat.le_of_ble_eq_true rfl)
  rw [lg_entry_eq]
  generalize (lg_sl ([.ref a0_]) ++ List.replicate (1 - (lg_sl ([.ref a0_])).length) Slot.unset).toArray = ls at hl ⊢
  have hl : lv_has ls 1 [(0, .ref a0_)] := hl
  refine W_q (fun Q hQ => ?_)
  refine lv_aload_n hx hb dX14_untold_0 rfl (lv_at hl 0 rfl) ?_
  refine lv_iconst (v := 0) hx hb dX14_untold_1 (by decide) ?_
  have kb_0 : bd 0 0 (0 : Int32) := ⟨by decide, by decide⟩
  refine g_put (C := RX14) (T := TX14) (N := 67) hx hb hts (mc_ inX14) tyX14 tyX14_ok nmX14 hown hK g ma0_ ka0_ (by decide) rfl 55 (by decide) (hts _ (List.mem_cons_of_mem _ t_2201)) (fun _ h9 => h9) rfl rfl (okV_i (bd_sub kb_0 (by decide))) rfl rfl (by decide) (Or.inr (Or.inl (by decide))) (fx' := []) rfl dX14_untold_2 (fun f H locs hM_1 g => ?_)
  refine lv_aload_n hx hb dX14_untold_5 rfl (lv_at hl 0 rfl) ?_
  refine lv_iconst (v := 0) hx hb dX14_untold_6 (by decide) ?_
  refine g_put (C := RX14) (T := TX14) (N := 67) hx hb hts (mc_ inX14) tyX14 tyX14_ok nmX14 hown hK g ma0_ ka0_ (by decide) rfl 30 (by decide) (hts _ (List.mem_cons_of_mem _ t_2176)) (fun _ h9 => h9) rfl rfl (okV_i (bd_sub kb_0 (by decide))) rfl rfl (by decide) (Or.inr (Or.inl (by decide))) (fx' := [(14, 55, a0_, .int 0)]) rfl dX14_untold_7 (fun f H locs hM_2 g => ?_)
  refine lv_aload_n hx hb dX14_untold_10 rfl (lv_at hl 0 rfl) ?_
  refine lv_lconst (v := 0) hx hb dX14_untold_11 (by decide) ?_
  refine g_put (C := RX14) (T := TX14) (N := 67) hx hb hts (mc_ inX14) tyX14 tyX14_ok nmX14 hown hK g ma0_ ka0_ (by decide) rfl 39 (by decide) (hts _ (List.mem_cons_of_mem _ t_2185)) (fun _ h9 => h9) rfl rfl okV_l rfl rfl (by decide) (Or.inr (Or.inl (by decide))) (fx' := [(14, 30, a0_, .int 0), (14, 55, a0_, .int 0)]) rfl dX14_untold_12 (fun f H locs hM_3 g => ?_)
  refine lv_aload_n hx hb dX14_untold_15 rfl (lv_at hl 0 rfl) ?_
  refine lv_lconst (v := 0) hx hb dX14_untold_16 (by decide) ?_
  refine g_put (C := RX14) (T := TX14) (N := 67) hx hb hts (mc_ inX14) tyX14 tyX14_ok nmX14 hown hK g ma0_ ka0_ (by decide) rfl 40 (by decide) (hts _ (List.mem_cons_of_mem _ t_2186)) (fun _ h9 => h9) rfl rfl okV_l rfl rfl (by decide) (Or.inr (Or.inl (by decide))) (fx' := [(14, 39, a0_, .long 0), (14, 30, a0_, .int 0), (14, 55, a0_, .int 0)]) rfl dX14_untold_17 (fun f H locs hM_4 g => ?_)
  refine lv_aload_n hx hb dX14_untold_20 rfl (lv_at hl 0 rfl) ?_
  refine g_callv (va_runV (As := []) (rest := []) ⟨hx, hb, hml, hown, hts⟩ (r_X14_nothingTold l dC dI L kd tys f H.size g.2.2.2.1 a0_ ma0_ ka0_) (cwV 0 hts (gV_ t_2142 t_2144 t_91 t_198 t_2145) rfl rfl rfl (by decide +kernel) ⟨(Nat.le_of_ble_eq_true rfl), (Nat.le_of_ble_eq_true rfl)⟩) (pre3V g hK ma0_ ka0_ (by decide) (q := (RX14, TX14, 67)) rfl) rfl rfl hl.1 rfl (lv_room (Nat.le_of_ble_eq_true rfl)) dX14_untold_21 ⟨(Nat.le_of_ble_eq_true rfl), (Nat.le_of_ble_eq_true rfl)⟩) g hK (by decide) (by decide) (fx' := [(14, 40, a0_, .long 0), (14, 39, a0_, .long 0), (14, 30, a0_, .int 0), (14, 55, a0_, .int 0)]) rfl (fun fr_5 H locs hp hMr_5 g => ?_)
  subst hQ
  exact W.vret hx hb hr (fun t ht hW => ⟨⟨_, rfl, (g.fcts [2, 3] rfl), q3_of g hK ht hW⟩, g.2.2.1.F ht⟩) g.2.2.1.2.2 dX14_untold_24
set_option maxHeartbeats 4000000 in
set_option maxRecDepth 100000 in
theorem r_X14_tells (l : Launch) (dC : Nat → ClassId) (dI : Nat → Nat → Nat) (L : List Nat) (kd : Nat → Nat) (tys : List (ClassId × FieldType)) (f0 : Nat → va_E) (sz : Nat) (hWT : WT L kd tys f0) (a0_ : Nat) (ma0_ : a0_ ∈ L) (ka0_ : kd a0_ = 14) (x1_ : Int32) (x2_ : Int32) (x3_ : Int32) (x4_ : Int32) : Met l yX14_tells (.code yX14_tells cX14_tells 5 none :: lw_g) ({ frames := 0, cells := 0, slots := 0, locals := 0 }) (va_Pc [.ref a0_, .int x1_, .int x2_, .int x3_, .int x4_] (P3 (dC, dI) L tys f0 sz)) (va_Qv (fun (f : Nat → va_E) => (True)) (Q3 (dC, dI) L kd tys [] [228] f0 sz) (pA L sz)) 0 0 (pA L sz) := by
  refine Met.ofW (cc := cX14_tells) (maxL := 5) (ret := none) (by decide) rfl ?_
  intro p e s m args below meth c s₁ B hml hv
  obtain ⟨rfl, hsz, hP, hK, hD0⟩ := hv
  have hx := B.exec
  have hb := B.bytes
  have hr := B.returns
  have hts := atoms_spec (ws := (.code yX14_tells cX14_tells 5 none :: lw_g)) B.pre
  have hown : s.vm.findClass RX14 = some m.cls := findClass_of_methodNamed B.named
  have hlocks := B.notSynchronized
  subst hsz
  have g : G3 (dC, dI) L kd tys s f0 [] [228] f0 s.heap [] [] := G3.start hP hD0 hWT Fs.nil
  have hl := lv_entry ([.ref a0_, .int x1_, .int x2_, .int x3_, .int x4_]) (n := 5) (Nat.le_of_ble_eq_true rfl)
  rw [lg_entry_eq]
  generalize (lg_sl ([.ref a0_, .int x1_, .int x2_, .int x3_, .int x4_]) ++ List.replicate (5 - (lg_sl ([.ref a0_, .int x1_, .int x2_, .int x3_, .int x4_])).length) Slot.unset).toArray = ls at hl ⊢
  have hl : lv_has ls 5 [(0, .ref a0_), (1, .int x1_), (2, .int x2_), (3, .int x3_), (4, .int x4_)] := hl
  refine W_q (fun Q hQ => ?_)
  refine lv_aload_n hx hb dX14_tells_0 rfl (lv_at hl 0 rfl) ?_
  refine g_getr (K := 228) (C := RX14) (T := TX14) (N := 67) hx hb hts (mc_ inX14) hown hK g ma0_ ka0_ (by decide) rfl 56 (by decide) rfl (hts _ (List.mem_cons_of_mem _ t_2202)) (fun _ h9 => h9) rfl dX14_tells_1 (fun a_1 ma_1 ka_1 g => ?_)
  refine lv_iconst (v := 0) hx hb dX14_tells_4 (by decide) ?_
  refine lv_iload_n hx hb dX14_tells_5 rfl (lv_at hl 1 rfl) ?_
  refine g_iast hx hb hK g ma_1 ka_1 (by decide) rfl (by unfold vp_in; decide) (bdT x1_) (by decide) dX14_tells_6 (fun f H locs hM_2 g => ?_)
  refine lv_aload_n hx hb dX14_tells_7 rfl (lv_at hl 0 rfl) ?_
  refine g_getk (C := RX14) (T := TX14) (N := 67) hx hb hts (mc_ inX14) hown hK g rfl 56 (by decide) rfl (hts _ (List.mem_cons_of_mem _ t_2202)) (fun _ h9 => h9) 0 rfl dX14_tells_8 ?_
  refine lv_iconst (v := 1) hx hb dX14_tells_11 (by decide) ?_
  refine lv_iload_n hx hb dX14_tells_12 rfl (lv_at hl 2 rfl) ?_
  refine g_iast hx hb hK g ma_1 ka_1 (by decide) rfl (by unfold vp_in; decide) (bdT x2_) (by decide) dX14_tells_13 (fun f H locs hM_3 g => ?_)
  refine lv_aload_n hx hb dX14_tells_14 rfl (lv_at hl 0 rfl) ?_
  refine g_getk (C := RX14) (T := TX14) (N := 67) hx hb hts (mc_ inX14) hown hK g rfl 56 (by decide) rfl (hts _ (List.mem_cons_of_mem _ t_2202)) (fun _ h9 => h9) 0 rfl dX14_tells_15 ?_
  refine lv_iconst (v := 2) hx hb dX14_tells_18 (by decide) ?_
  refine lv_iload_n hx hb dX14_tells_19 rfl (lv_at hl 3 rfl) ?_
  refine g_iast hx hb hK g ma_1 ka_1 (by decide) rfl (by unfold vp_in; decide) (bdT x3_) (by decide) dX14_tells_20 (fun f H locs hM_4 g => ?_)
  refine lv_aload_n hx hb dX14_tells_21 rfl (lv_at hl 0 rfl) ?_
  refine g_getk (C := RX14) (T := TX14) (N := 67) hx hb hts (mc_ inX14) hown hK g rfl 56 (by decide) rfl (hts _ (List.mem_cons_of_mem _ t_2202)) (fun _ h9 => h9) 0 rfl dX14_tells_22 ?_
  refine lv_iconst (v := 3) hx hb dX14_tells_25 (by decide) ?_
  refine lv_iload hx hb dX14_tells_26 (lv_at hl 4 rfl) ?_
  refine g_iast hx hb hK g ma_1 ka_1 (by decide) rfl (by unfold vp_in; decide) (bdT x4_) (by decide) dX14_tells_28 (fun f H locs hM_5 g => ?_)
  subst hQ
  exact W.vret hx hb hr (fun t ht hW => ⟨⟨_, rfl, trivial, q3_of g hK ht hW⟩, g.2.2.1.F ht⟩) g.2.2.1.2.2 dX14_tells_29
set_option maxHeartbeats 4000000 in
set_option maxRecDepth 100000 in
theorem r_X14_clear (l : Launch) (dC : Nat → ClassId) (dI : Nat → Nat → Nat) (L : List Nat) (kd : Nat → Nat) (tys : List (ClassId × FieldType)) (f0 : Nat → va_E) (sz : Nat) (hWT : WT L kd tys f0) (a0_ : Nat) (ma0_ : a0_ ∈ L) (ka0_ : kd a0_ = 14) : Met l yX14_clear (.code yX14_clear cX14_clear 2 (some .int) :: lw_g) ({ frames := 0, cells := 0, slots := 0, locals := 0 }) (va_Pc [.ref a0_] (P3 (dC, dI) L tys f0 sz)) (va_Qi (fun (r : Int32) (f : Nat → va_E) => (bd 0 10 r ∧ Fs L kd f [(14, 53, a0_, .int 1), (14, 52, a0_, .int 0), (14, 51, a0_, .int 0)])) (Q3 (dC, dI) L kd tys [(14, 51), (14, 52), (14, 53)] [] f0 sz) (pA L sz)) 0 0 (pA L sz) := by
  refine Met.ofW (cc := cX14_clear) (maxL := 2) (ret := (some .int)) (by decide) rfl ?_
  intro p e s m args below meth c s₁ B hml hv
  obtain ⟨rfl, hsz, hP, hK, hD0⟩ := hv
  have hx := B.exec
  have hb := B.bytes
  have hr := B.returns
  have hts := atoms_spec (ws := (.code yX14_clear cX14_clear 2 (some .int) :: lw_g)) B.pre
  have hown : s.vm.findClass RX14 = some m.cls := findClass_of_methodNamed B.named
  have hlocks := B.notSynchronized
  subst hsz
  have g : G3 (dC, dI) L kd tys s f0 [(14, 51), (14, 52), (14, 53)] [] f0 s.heap [] [] := G3.start hP hD0 hWT Fs.nil
  have hl := lv_entry ([.ref a0_]) (n := 2) (Nat.le_of_ble_eq_true rfl)
  rw [lg_entry_eq]
  generalize (lg_sl ([.ref a0_]) ++ List.replicate (2 - (lg_sl ([.ref a0_])).length) Slot.unset).toArray = ls at hl ⊢
  have hl : lv_has ls 2 [(0, .ref a0_)] := hl
  refine W_q (fun Q hQ => ?_)
  refine lv_aload_n hx hb dX14_clear_0 rfl (lv_at hl 0 rfl) ?_
  refine g_geti (C := RX14) (T := TX14) (N := 67) hx hb hts (mc_ inX14) hown hK g ma0_ ka0_ (by decide) rfl 51 (by decide) rfl (hts _ (List.mem_cons_of_mem _ t_2197)) (fun _ h9 => h9) rfl dX14_clear_1 (fun x_1 bx_1 g => ?_)
  refine lv_istore_n (lv' := [(1, .int x_1), (0, .ref a0_)]) hx hb dX14_clear_4 rfl hl (by decide) rfl (fun ls hl => ?_)
  refine lv_aload_n hx hb dX14_clear_5 rfl (lv_at hl 1 rfl) ?_
  refine lv_iconst (v := 0) hx hb dX14_clear_6 (by decide) ?_
  have kb_0 : bd 0 0 (0 : Int32) := ⟨by decide, by decide⟩
  refine g_put (C := RX14) (T := TX14) (N := 67) hx hb hts (mc_ inX14) tyX14 tyX14_ok nmX14 hown hK g ma0_ ka0_ (by decide) rfl 51 (by decide) (hts _ (List.mem_cons_of_mem _ t_2197)) (fun _ h9 => h9) rfl rfl (okV_i (bd_sub kb_0 (by decide))) rfl rfl (by decide) (Or.inr (Or.inl (by decide))) (fx' := []) rfl dX14_clear_7 (fun f H locs hM_2 g => ?_)
  refine lv_aload_n hx hb dX14_clear_10 rfl (lv_at hl 1 rfl) ?_
  refine lv_iconst (v := 0) hx hb dX14_clear_11 (by decide) ?_
  refine g_put (C := RX14) (T := TX14) (N := 67) hx hb hts (mc_ inX14) tyX14 tyX14_ok nmX14 hown hK g ma0_ ka0_ (by decide) rfl 52 (by decide) (hts _ (List.mem_cons_of_mem _ t_2198)) (fun _ h9 => h9) rfl rfl (okV_i (bd_sub kb_0 (by decide))) rfl rfl (by decide) (Or.inr (Or.inl (by decide))) (fx' := [(14, 51, a0_, .int 0)]) rfl dX14_clear_12 (fun f H locs hM_3 g => ?_)
  refine lv_aload_n hx hb dX14_clear_15 rfl (lv_at hl 1 rfl) ?_
  refine lv_iconst (v := 1) hx hb dX14_clear_16 (by decide) ?_
  have kb_1 : bd 1 1 (1 : Int32) := ⟨by decide, by decide⟩
  refine g_put (C := RX14) (T := TX14) (N := 67) hx hb hts (mc_ inX14) tyX14 tyX14_ok nmX14 hown hK g ma0_ ka0_ (by decide) rfl 53 (by decide) (hts _ (List.mem_cons_of_mem _ t_2199)) (fun _ h9 => h9) rfl rfl (okV_i (bd_sub kb_1 (by decide))) rfl rfl (by decide) (Or.inr (Or.inl (by decide))) (fx' := [(14, 52, a0_, .int 0), (14, 51, a0_, .int 0)]) rfl dX14_clear_17 (fun f H locs hM_4 g => ?_)
  refine lv_iload_n hx hb dX14_clear_20 rfl (lv_at hl 0 rfl) ?_
  subst hQ
  exact W.iret (v := x_1) hx hb hr (fun t ht hW => ⟨⟨_, _, rfl, ⟨bx_1, (g.fcts [0, 1, 2] rfl)⟩, q3_of g hK ht hW⟩, g.2.2.1.F ht⟩) g.2.2.1.2.2 dX14_clear_21
set_option maxHeartbeats 4000000 in
set_option maxRecDepth 100000 in
theorem r_X14_nextDrawn (l : Launch) (dC : Nat → ClassId) (dI : Nat → Nat → Nat) (L : List Nat) (kd : Nat → Nat) (tys : List (ClassId × FieldType)) (f0 : Nat → va_E) (sz : Nat) (hWT : WT L kd tys f0) (a0_ : Nat) (ma0_ : a0_ ∈ L) (ka0_ : kd a0_ = 14) : Met l yX14_nextDrawn (.code yX14_nextDrawn cX14_nextDrawn 1 (some .int) :: lw_g) ({ frames := 0, cells := 0, slots := 0, locals := 0 }) (va_Pc [.ref a0_] (P3 (dC, dI) L tys f0 sz)) (va_Qi (fun (r : Int32) (f : Nat → va_E) => (bd 0 32767 r ∧ True)) (Q3 (dC, dI) L kd tys [(14, 60)] [] f0 sz) (pA L sz)) 0 0 (pA L sz) := by
  refine Met.ofW (cc := cX14_nextDrawn) (maxL := 1) (ret := (some .int)) (by decide) rfl ?_
  intro p e s m args below meth c s₁ B hml hv
  obtain ⟨rfl, hsz, hP, hK, hD0⟩ := hv
  have hx := B.exec
  have hb := B.bytes
  have hr := B.returns
  have hts := atoms_spec (ws := (.code yX14_nextDrawn cX14_nextDrawn 1 (some .int) :: lw_g)) B.pre
  have hown : s.vm.findClass RX14 = some m.cls := findClass_of_methodNamed B.named
  have hlocks := B.notSynchronized
  subst hsz
  have g : G3 (dC, dI) L kd tys s f0 [(14, 60)] [] f0 s.heap [] [] := G3.start hP hD0 hWT Fs.nil
  have hl := lv_entry ([.ref a0_]) (n := 1) (Nat.le_of_ble_eq_true rfl)
  rw [lg_entry_eq]
  generalize (lg_sl ([.ref a0_]) ++ List.replicate (1 - (lg_sl ([.ref a0_])).length) Slot.unset).toArray = ls at hl ⊢
  have hl : lv_has ls 1 [(0, .ref a0_)] := hl
  refine W_q (fun Q hQ => ?_)
  refine lv_aload_n hx hb dX14_nextDrawn_0 rfl (lv_at hl 0 rfl) ?_
  refine lv_ldcw (v := 1103515245) hx hb hown (hts _ (List.mem_cons_of_mem _ t_2738)) dX14_nextDrawn_1 ?_
  refine lv_aload_n hx hb dX14_nextDrawn_4 rfl (lv_at hl 0 rfl) ?_
  refine g_geti (C := RX14) (T := TX14) (N := 67) hx hb hts (mc_ inX14) hown hK g ma0_ ka0_ (by decide) rfl 60 (by decide) rfl (hts _ (List.mem_cons_of_mem _ t_2206)) (fun _ h9 => h9) rfl dX14_nextDrawn_5 (fun x_1 bx_1 g => ?_)
  refine lv_imul hx hb dX14_nextDrawn_8 ?_
  refine lv_topi (fun y_2 ey_2 => ?_)
  refine lv_sipush (v := 12345) hx hb dX14_nextDrawn_9 (by decide) ?_
  have kb_12345 : bd 12345 12345 (12345 : Int32) := ⟨by decide, by decide⟩
  refine lv_iadd hx hb dX14_nextDrawn_12 ?_
  refine lv_topi (fun y_3 ey_3 => ?_)
  refine g_put (C := RX14) (T := TX14) (N := 67) hx hb hts (mc_ inX14) tyX14 tyX14_ok nmX14 hown hK g ma0_ ka0_ (by decide) rfl 60 (by decide) (hts _ (List.mem_cons_of_mem _ t_2206)) (fun _ h9 => h9) rfl rfl (okV_i (bdT y_3)) rfl rfl (by decide) (Or.inr (Or.inl (by decide))) (fx' := []) rfl dX14_nextDrawn_13 (fun f H locs hM_4 g => ?_)
  refine lv_aload_n hx hb dX14_nextDrawn_16 rfl (lv_at hl 0 rfl) ?_
  refine g_getk (C := RX14) (T := TX14) (N := 67) hx hb hts (mc_ inX14) hown hK g rfl 60 (by decide) rfl (hts _ (List.mem_cons_of_mem _ t_2206)) (fun _ h9 => h9) 0 rfl dX14_nextDrawn_17 ?_
  refine lv_bipush (v := 16) hx hb dX14_nextDrawn_20 (by decide) ?_
  refine lv_iushr hx hb dX14_nextDrawn_22 rfl ?_
  refine lv_topi (fun y_5 ey_5 => ?_)
  refine lv_sipush (v := 32767) hx hb dX14_nextDrawn_23 (by decide) ?_
  have kb_32767 : bd 32767 32767 (32767 : Int32) := ⟨by decide, by decide⟩
  refine lv_iand hx hb dX14_nextDrawn_26 ?_
  refine lv_topi (fun y_6 ey_6 => ?_)
  have b_7 : bd 0 32767 y_6 := and_rg ey_6 (bdT y_5) kb_32767 (by decide)
  subst hQ
  exact W.iret (v := y_6) hx hb hr (fun t ht hW => ⟨⟨_, _, rfl, ⟨b_7, trivial⟩, q3_of g hK ht hW⟩, g.2.2.1.F ht⟩) g.2.2.1.2.2 dX14_nextDrawn_27
set_option maxHeartbeats 4000000 in
set_option maxRecDepth 100000 in
theorem r_X14_tried (l : Launch) (dC : Nat → ClassId) (dI : Nat → Nat → Nat) (L : List Nat) (kd : Nat → Nat) (tys : List (ClassId × FieldType)) (f0 : Nat → va_E) (sz : Nat) (hWT : WT L kd tys f0) (a0_ : Nat) (ma0_ : a0_ ∈ L) (ka0_ : kd a0_ = 14) : Met l yX14_tried (.code yX14_tried cX14_tried 1 (some .int) :: lw_g) ({ frames := 0, cells := 0, slots := 0, locals := 0 }) (va_Pc [.ref a0_] (P3 (dC, dI) L tys f0 sz)) (va_Qi (fun (r : Int32) (f : Nat → va_E) => (True)) (Q3 (dC, dI) L kd tys [] [] f0 sz) (pA L sz)) 0 0 (pA L sz) := by
  refine Met.ofW (cc := cX14_tried) (maxL := 1) (ret := (some .int)) (by decide) rfl ?_
  intro p e s m args below meth c s₁ B hml hv
  obtain ⟨rfl, hsz, hP, hK, hD0⟩ := hv
  have hx := B.exec
  have hb := B.bytes
  have hr := B.returns
  have hts := atoms_spec (ws := (.code yX14_tried cX14_tried 1 (some .int) :: lw_g)) B.pre
  have hown : s.vm.findClass RX14 = some m.cls := findClass_of_methodNamed B.named
  have hlocks := B.notSynchronized
  subst hsz
  have g : G3 (dC, dI) L kd tys s f0 [] [] f0 s.heap [] [] := G3.start hP hD0 hWT Fs.nil
  have hl := lv_entry ([.ref a0_]) (n := 1) (Nat.le_of_ble_eq_true rfl)
  rw [lg_entry_eq]
  generalize (lg_sl ([.ref a0_]) ++ List.replicate (1 - (lg_sl ([.ref a0_])).length) Slot.unset).toArray = ls at hl ⊢
  have hl : lv_has ls 1 [(0, .ref a0_)] := hl
  refine W_q (fun Q hQ => ?_)
  refine lv_aload_n hx hb dX14_tried_0 rfl (lv_at hl 0 rfl) ?_
  refine g_geti (C := RX14) (T := TX14) (N := 67) hx hb hts (mc_ inX14) hown hK g ma0_ ka0_ (by decide) rfl 58 (by decide) rfl (hts _ (List.mem_cons_of_mem _ t_2204)) (fun _ h9 => h9) rfl dX14_tried_1 (fun x_1 bx_1 g => ?_)
  subst hQ
  exact W.iret (v := x_1) hx hb hr (fun t ht hW => ⟨⟨_, _, rfl, trivial, q3_of g hK ht hW⟩, g.2.2.1.F ht⟩) g.2.2.1.2.2 dX14_tried_4
set_option maxHeartbeats 4000000 in
set_option maxRecDepth 100000 in
theorem r_X14_cut (l : Launch) (dC : Nat → ClassId) (dI : Nat → Nat → Nat) (L : List Nat) (kd : Nat → Nat) (tys : List (ClassId × FieldType)) (f0 : Nat → va_E) (sz : Nat) (hWT : WT L kd tys f0) (a0_ : Nat) (ma0_ : a0_ ∈ L) (ka0_ : kd a0_ = 14) : Met l yX14_cut (.code yX14_cut cX14_cut 1 (some .int) :: lw_g) ({ frames := 0, cells := 0, slots := 0, locals := 0 }) (va_Pc [.ref a0_] (P3 (dC, dI) L tys f0 sz)) (va_Qi (fun (r : Int32) (f : Nat → va_E) => (True)) (Q3 (dC, dI) L kd tys [] [] f0 sz) (pA L sz)) 0 0 (pA L sz) := by
  refine Met.ofW (cc := cX14_cut) (maxL := 1) (ret := (some .int)) (by decide) rfl ?_
  intro p e s m args below meth c s₁ B hml hv
  obtain ⟨rfl, hsz, hP, hK, hD0⟩ := hv
  have hx := B.exec
  have hb := B.bytes
  have hr := B.returns
  have hts := atoms_spec (ws := (.code yX14_cut cX14_cut 1 (some .int) :: lw_g)) B.pre
  have hown : s.vm.findClass RX14 = some m.cls := findClass_of_methodNamed B.named
  have hlocks := B.notSynchronized
  subst hsz
  have g : G3 (dC, dI) L kd tys s f0 [] [] f0 s.heap [] [] := G3.start hP hD0 hWT Fs.nil
  have hl := lv_entry ([.ref a0_]) (n := 1) (Nat.le_of_ble_eq_true rfl)
  rw [lg_entry_eq]
  generalize (lg_sl ([.ref a0_]) ++ List.replicate (1 - (lg_sl ([.ref a0_])).length) Slot.unset).toArray = ls at hl ⊢
  have hl : lv_has ls 1 [(0, .ref a0_)] := hl
  refine W_q (fun Q hQ => ?_)
  refine lv_aload_n hx hb dX14_cut_0 rfl (lv_at hl 0 rfl) ?_
  refine g_geti (C := RX14) (T := TX14) (N := 67) hx hb hts (mc_ inX14) hown hK g ma0_ ka0_ (by decide) rfl 59 (by decide) rfl (hts _ (List.mem_cons_of_mem _ t_2205)) (fun _ h9 => h9) rfl dX14_cut_1 (fun x_1 bx_1 g => ?_)
  subst hQ
  exact W.iret (v := x_1) hx hb hr (fun t ht hW => ⟨⟨_, _, rfl, trivial, q3_of g hK ht hW⟩, g.2.2.1.F ht⟩) g.2.2.1.2.2 dX14_cut_4
set_option maxHeartbeats 4000000 in
set_option maxRecDepth 100000 in
theorem r_X14_verdict (l : Launch) (dC : Nat → ClassId) (dI : Nat → Nat → Nat) (L : List Nat) (kd : Nat → Nat) (tys : List (ClassId × FieldType)) (f0 : Nat → va_E) (sz : Nat) (hWT : WT L kd tys f0) (a0_ : Nat) (ma0_ : a0_ ∈ L) (ka0_ : kd a0_ = 14) : Met l yX14_verdict (.code yX14_verdict cX14_verdict 1 (some .int) :: lw_g) ({ frames := 0, cells := 0, slots := 0, locals := 0 }) (va_Pc [.ref a0_] (P3 (dC, dI) L tys f0 sz)) (va_Qi (fun (r : Int32) (f : Nat → va_E) => (True)) (Q3 (dC, dI) L kd tys [] [] f0 sz) (pA L sz)) 0 0 (pA L sz) := by
  refine Met.ofW (cc := cX14_verdict) (maxL := 1) (ret := (some .int)) (by decide) rfl ?_
  intro p e s m args below meth c s₁ B hml hv
  obtain ⟨rfl, hsz, hP, hK, hD0⟩ := hv
  have hx := B.exec
  have hb := B.bytes
  have hr := B.returns
  have hts := atoms_spec (ws := (.code yX14_verdict cX14_verdict 1 (some .int) :: lw_g)) B.pre
  have hown : s.vm.findClass RX14 = some m.cls := findClass_of_methodNamed B.named
  have hlocks := B.notSynchronized
  subst hsz
  have g : G3 (dC, dI) L kd tys s f0 [] [] f0 s.heap [] [] := G3.start hP hD0 hWT Fs.nil
  have hl := lv_entry ([.ref a0_]) (n := 1) (Nat.le_of_ble_eq_true rfl)
  rw [lg_entry_eq]
  generalize (lg_sl ([.ref a0_]) ++ List.replicate (1 - (lg_sl ([.ref a0_])).length) Slot.unset).toArray = ls at hl ⊢
  have hl : lv_has ls 1 [(0, .ref a0_)] := hl
  refine W_q (fun Q hQ => ?_)
  refine lv_aload_n hx hb dX14_verdict_0 rfl (lv_at hl 0 rfl) ?_
  refine g_geti (C := RX14) (T := TX14) (N := 67) hx hb hts (mc_ inX14) hown hK g ma0_ ka0_ (by decide) rfl 55 (by decide) rfl (hts _ (List.mem_cons_of_mem _ t_2201)) (fun _ h9 => h9) rfl dX14_verdict_1 (fun x_1 bx_1 g => ?_)
  subst hQ
  exact W.iret (v := x_1) hx hb hr (fun t ht hW => ⟨⟨_, _, rfl, trivial, q3_of g hK ht hW⟩, g.2.2.1.F ht⟩) g.2.2.1.2.2 dX14_verdict_4
set_option maxHeartbeats 4000000 in
set_option maxRecDepth 100000 in
theorem r_X14_condition (l : Launch) (dC : Nat → ClassId) (dI : Nat → Nat → Nat) (L : List Nat) (kd : Nat → Nat) (tys : List (ClassId × FieldType)) (f0 : Nat → va_E) (sz : Nat) (hWT : WT L kd tys f0) (a0_ : Nat) (ma0_ : a0_ ∈ L) (ka0_ : kd a0_ = 14) (x1_ : Int32) : Met l yX14_condition (.code yX14_condition cX14_condition 2 (some .int) :: lw_g) ({ frames := 1, cells := 0, slots := 0, locals := 25 }) (va_Pc [.ref a0_, .int x1_] (P3 (dC, dI) L tys f0 sz)) (va_Qi (fun (r : Int32) (f : Nat → va_E) => (True)) (Q3 (dC, dI) L kd tys [] [] f0 sz) (pA L sz)) 0 0 (pA L sz) := by
  refine Met.ofW (cc := cX14_condition) (maxL := 2) (ret := (some .int)) (by decide) rfl ?_
  intro p e s m args below meth c s₁ B hml hv
  obtain ⟨rfl, hsz, hP, hK, hD0⟩ := hv
  have hx := B.exec
  have hb := B.bytes
  have hr := B.returns
  have hts := atoms_spec (ws := (.code yX14_condition cX14_condition 2 (some .int) :: lw_g)) B.pre
  have hown : s.vm.findClass RX14 = some m.cls := findClass_of_methodNamed B.named
  have hlocks := B.notSynchronized
  subst hsz
  have g : G3 (dC, dI) L kd tys s f0 [] [] f0 s.heap [] [] := G3.start hP hD0 hWT Fs.nil
  have hl := lv_entry ([.ref a0_, .int x1_]) (n := 2) (Nat.le_of_ble_eq_true rfl)
  rw [lg_entry_eq]
  generalize (lg_sl ([.ref a0_, .int x1_]) ++ List.replicate (2 - (lg_sl ([.ref a0_, .int x1_])).length) Slot.unset).toArray = ls at hl ⊢
  have hl : lv_has ls 2 [(0, .ref a0_), (1, .int x1_)] := hl
  refine W_q (fun Q hQ => ?_)
  refine lv_iload_n hx hb dX14_condition_0 rfl (lv_at hl 1 rfl) ?_
  refine lv_i2l hx hb dX14_condition_1 rfl ?_
  refine lv_topl (fun y_1 ey_1 => ?_)
  refine lv_lconst (v := 0) hx hb dX14_condition_2 (by decide) ?_
  refine lv_ldc2 (v := 3) hx hb hown (hts _ (List.mem_cons_of_mem _ t_2809)) dX14_condition_3 ?_
  refine g_calli (va_runS (As := [.long y_1, .long 0, .long 3]) (rest := []) ⟨hx, hb, hml, hown, hts⟩ (r_X14_in l dC dI L kd tys f0 s.heap.size g.2.2.2.1 y_1 0 3) (va_cwS 3 hts (gS_ t_2448 t_2449 t_198 t_2450) rfl rfl rfl (by decide +kernel) ⟨(Nat.le_of_ble_eq_true rfl), (Nat.le_of_ble_eq_true rfl)⟩) (pre3S g hK) rfl rfl hl.1 rfl (lv_room (Nat.le_of_ble_eq_true rfl)) dX14_condition_6 ⟨(Nat.le_of_ble_eq_true rfl), (Nat.le_of_ble_eq_true rfl)⟩) g hK (by decide) (by decide) (fx' := []) rfl (fun r_2 fr_2 H locs hp hMr_2 g => ?_)
  rcases hp with ⟨hx_3, h_4, -⟩ | ⟨h_5, h_6, -⟩
  · obtain rfl : r_2 = 0 := h_4
    refine lv_if_eq (tgt := 21) hx hb dX14_condition_9 (by decide) (fun c_ => ?_) (fun c_ => absurd (by decide) c_)
    refine lv_iconst (v := (-1)) hx hb dX14_condition_21 (by decide) ?_
    subst hQ
    exact W.iret (v := (-1)) hx hb hr (fun t ht hW => ⟨⟨_, _, rfl, trivial, q3_of g hK ht hW⟩, g.2.2.1.F ht⟩) g.2.2.1.2.2 dX14_condition_22
  · obtain rfl : r_2 = 1 := h_5
    have f_7 : (0 : Int32).toInt ≤ x1_.toInt := in_le h_6.1 (in_k (k := 0) (by decide) (by decide)) (in_v ey_1)
    have f_8 : x1_.toInt ≤ (3 : Int32).toInt := in_le h_6.2 (in_v ey_1) (in_k (k := 3) (by decide) (by decide))
    have kb_0 : bd 0 0 (0 : Int32) := ⟨by decide, by decide⟩
    have b_9 : bd 0 2147483647 x1_ := leR f_7 kb_0 (bdT x1_) (by decide)
    have kb_3 : bd 3 3 (3 : Int32) := ⟨by decide, by decide⟩
    have b_10 : bd 0 3 x1_ := leL f_8 b_9 kb_3 (by decide)
    refine lv_if_eq (tgt := 21) hx hb dX14_condition_9 (by decide) (fun c_ => absurd c_ (by decide)) (fun c_ => ?_)
    refine lv_aload_n hx hb dX14_condition_12 rfl (lv_at hl 0 rfl) ?_
    refine g_getr (K := 228) (C := RX14) (T := TX14) (N := 67) hx hb hts (mc_ inX14) hown hK g ma0_ ka0_ (by decide) rfl 56 (by decide) rfl (hts _ (List.mem_cons_of_mem _ t_2202)) (fun _ h9 => h9) rfl dX14_condition_13 (fun a_11 ma_11 ka_11 g => ?_)
    refine lv_iload_n hx hb dX14_condition_16 rfl (lv_at hl 1 rfl) ?_
    refine g_iald hx hb hK g ma_11 ka_11 (by decide) rfl (in_bd b_10 (by decide)) dX14_condition_17 (fun x_12 bx_12 cx_12 => ?_)
    refine lv_goto (tgt := 22) hx hb dX14_condition_18 (by decide) ?_
    subst hQ
    exact W.iret (v := x_12) hx hb hr (fun t ht hW => ⟨⟨_, _, rfl, trivial, q3_of g hK ht hW⟩, g.2.2.1.F ht⟩) g.2.2.1.2.2 dX14_condition_22
set_option maxHeartbeats 4000000 in
set_option maxRecDepth 100000 in
theorem r_X14_changed (l : Launch) (dC : Nat → ClassId) (dI : Nat → Nat → Nat) (L : List Nat) (kd : Nat → Nat) (tys : List (ClassId × FieldType)) (f0 : Nat → va_E) (sz : Nat) (hWT : WT L kd tys f0) (a0_ : Nat) (ma0_ : a0_ ∈ L) (ka0_ : kd a0_ = 14) (x1_ : Int32) : Met l yX14_changed (.code yX14_changed cX14_changed 2 (some .int) :: lw_g) ({ frames := 1, cells := 0, slots := 0, locals := 25 }) (va_Pc [.ref a0_, .int x1_] (P3 (dC, dI) L tys f0 sz)) (va_Qi (fun (r : Int32) (f : Nat → va_E) => (True)) (Q3 (dC, dI) L kd tys [] [] f0 sz) (pA L sz)) 0 0 (pA L sz) := by
  refine Met.ofW (cc := cX14_changed) (maxL := 2) (ret := (some .int)) (by decide) rfl ?_
  intro p e s m args below meth c s₁ B hml hv
  obtain ⟨rfl, hsz, hP, hK, hD0⟩ := hv
  have hx := B.exec
  have hb := B.bytes
  have hr := B.returns
  have hts := atoms_spec (ws := (.code yX14_changed cX14_changed 2 (some .int) :: lw_g)) B.pre
  have hown : s.vm.findClass RX14 = some m.cls := findClass_of_methodNamed B.named
  have hlocks := B.notSynchronized
  subst hsz
  have g : G3 (dC, dI) L kd tys s f0 [] [] f0 s.heap [] [] := G3.start hP hD0 hWT Fs.nil
  have hl := lv_entry ([.ref a0_, .int x1_]) (n := 2) (Nat.le_of_ble_eq_true rfl)
  rw [lg_entry_eq]
  generalize (lg_sl ([.ref a0_, .int x1_]) ++ List.replicate (2 - (lg_sl ([.ref a0_, .int x1_])).length) Slot.unset).toArray = ls at hl ⊢
  have hl : lv_has ls 2 [(0, .ref a0_), (1, .int x1_)] := hl
  refine W_q (fun Q hQ => ?_)
  refine lv_iload_n hx hb dX14_changed_0 rfl (lv_at hl 1 rfl) ?_
  refine lv_i2l hx hb dX14_changed_1 rfl ?_
  refine lv_topl (fun y_1 ey_1 => ?_)
  refine lv_lconst (v := 0) hx hb dX14_changed_2 (by decide) ?_
  refine lv_lconst (v := 1) hx hb dX14_changed_3 (by decide) ?_
  refine g_calli (va_runS (As := [.long y_1, .long 0, .long 1]) (rest := []) ⟨hx, hb, hml, hown, hts⟩ (r_X14_in l dC dI L kd tys f0 s.heap.size g.2.2.2.1 y_1 0 1) (va_cwS 3 hts (gS_ t_2448 t_2449 t_198 t_2450) rfl rfl rfl (by decide +kernel) ⟨(Nat.le_of_ble_eq_true rfl), (Nat.le_of_ble_eq_true rfl)⟩) (pre3S g hK) rfl rfl hl.1 rfl (lv_room (Nat.le_of_ble_eq_true rfl)) dX14_changed_4 ⟨(Nat.le_of_ble_eq_true rfl), (Nat.le_of_ble_eq_true rfl)⟩) g hK (by decide) (by decide) (fx' := []) rfl (fun r_2 fr_2 H locs hp hMr_2 g => ?_)
  rcases hp with ⟨hx_3, h_4, -⟩ | ⟨h_5, h_6, -⟩
  · obtain rfl : r_2 = 0 := h_4
    refine lv_if_eq (tgt := 19) hx hb dX14_changed_7 (by decide) (fun c_ => ?_) (fun c_ => absurd (by decide) c_)
    refine lv_iconst (v := (-1)) hx hb dX14_changed_19 (by decide) ?_
    subst hQ
    exact W.iret (v := (-1)) hx hb hr (fun t ht hW => ⟨⟨_, _, rfl, trivial, q3_of g hK ht hW⟩, g.2.2.1.F ht⟩) g.2.2.1.2.2 dX14_changed_20
  · obtain rfl : r_2 = 1 := h_5
    have f_7 : (0 : Int32).toInt ≤ x1_.toInt := in_le h_6.1 (in_k (k := 0) (by decide) (by decide)) (in_v ey_1)
    have f_8 : x1_.toInt ≤ (1 : Int32).toInt := in_le h_6.2 (in_v ey_1) (in_k (k := 1) (by decide) (by decide))
    have kb_0 : bd 0 0 (0 : Int32) := ⟨by decide, by decide⟩
    have b_9 : bd 0 2147483647 x1_ := leR f_7 kb_0 (bdT x1_) (by decide)
    have kb_1 : bd 1 1 (1 : Int32) := ⟨by decide, by decide⟩
    have b_10 : bd 0 1 x1_ := leL f_8 b_9 kb_1 (by decide)
    refine lv_if_eq (tgt := 19) hx hb dX14_changed_7 (by decide) (fun c_ => absurd c_ (by decide)) (fun c_ => ?_)
    refine lv_aload_n hx hb dX14_changed_10 rfl (lv_at hl 0 rfl) ?_
    refine g_getr (K := 229) (C := RX14) (T := TX14) (N := 67) hx hb hts (mc_ inX14) hown hK g ma0_ ka0_ (by decide) rfl 57 (by decide) rfl (hts _ (List.mem_cons_of_mem _ t_2203)) (fun _ h9 => h9) rfl dX14_changed_11 (fun a_11 ma_11 ka_11 g => ?_)
    refine lv_iload_n hx hb dX14_changed_14 rfl (lv_at hl 1 rfl) ?_
    refine g_iald hx hb hK g ma_11 ka_11 (by decide) rfl (in_bd b_10 (by decide)) dX14_changed_15 (fun x_12 bx_12 cx_12 => ?_)
    refine lv_goto (tgt := 20) hx hb dX14_changed_16 (by decide) ?_
    subst hQ
    exact W.iret (v := x_12) hx hb hr (fun t ht hW => ⟨⟨_, _, rfl, trivial, q3_of g hK ht hW⟩, g.2.2.1.F ht⟩) g.2.2.1.2.2 dX14_changed_20
set_option maxHeartbeats 4000000 in
set_option maxRecDepth 100000 in
theorem r_X14_lettersOf (l : Launch) (dC : Nat → ClassId) (dI : Nat → Nat → Nat) (L : List Nat) (kd : Nat → Nat) (tys : List (ClassId × FieldType)) (f0 : Nat → va_E) (sz : Nat) (hWT : WT L kd tys f0) (x0_ : Int64) : Met l yX14_lettersOf (.code yX14_lettersOf cX14_lettersOf 5 (some .int) :: lw_g) ({ frames := 0, cells := 0, slots := 0, locals := 0 }) (va_Pc [.long x0_] (P3 (dC, dI) L tys f0 sz)) (va_Qi (fun (r : Int32) (f : Nat → va_E) => (True)) (Q3 (dC, dI) L kd tys [] [] f0 sz) (pA L sz)) 0 0 (pA L sz) := by
  refine Met.ofW (cc := cX14_lettersOf) (maxL := 5) (ret := (some .int)) (by decide) rfl ?_
  intro p e s m args below meth c s₁ B hml hv
  obtain ⟨rfl, hsz, hP, hK, hD0⟩ := hv
  have hx := B.exec
  have hb := B.bytes
  have hr := B.returns
  have hts := atoms_spec (ws := (.code yX14_lettersOf cX14_lettersOf 5 (some .int) :: lw_g)) B.pre
  have hown : s.vm.findClass RX14 = some m.cls := findClass_of_methodNamed B.named
  have hlocks := B.notSynchronized
  subst hsz
  have g : G3 (dC, dI) L kd tys s f0 [] [] f0 s.heap [] [] := G3.start hP hD0 hWT Fs.nil
  have hl := lv_entry ([.long x0_]) (n := 5) (Nat.le_of_ble_eq_true rfl)
  rw [lg_entry_eq]
  generalize (lg_sl ([.long x0_]) ++ List.replicate (5 - (lg_sl ([.long x0_])).length) Slot.unset).toArray = ls at hl ⊢
  have hl : lv_has ls 5 [(0, .long x0_)] := hl
  refine W_q (fun Q hQ => ?_)
  refine lv_iconst (v := 0) hx hb dX14_lettersOf_0 (by decide) ?_
  refine lv_istore_n (lv' := [(2, .int 0), (0, .long x0_)]) hx hb dX14_lettersOf_1 rfl hl (by decide) rfl (fun ls hl => ?_)
  refine lv_lload_n hx hb dX14_lettersOf_2 rfl (lv_at hl 1 rfl) ?_
  refine lv_lstore_n (lv' := [(3, .long x0_), (2, .int 0), (0, .long x0_)]) hx hb dX14_lettersOf_3 rfl hl (by decide) rfl (fun ls hl => ?_)
  have loop_1 : ∀ (n : Nat) (v4_3 : Int64) (v4_2 : Int32), ((v4_3.toUInt64.toNat : Int) < (n : Int)) → ∀ (f : Nat → va_E) (H : Heap) (locs : List Loc) (ls : Array Slot), G3 (dC, dI) L kd tys s f0 [] [] f H locs [] → lv_has ls 5 [(3, .long v4_3), (2, .int v4_2), (0, .long x0_)] → W p l e ({ frames := 0, cells := 0, slots := 0, locals := 0 } : Room) s m [.long x0_].toArray below meth c H locs 0 0 Q (F0 m 4 ls []) := by
    intro n4
    induction n4 with
    | zero =>
      intro v4_3 v4_2   hm4 f H locs ls g  hl
      exact absurd hm4 (by have h9_v4_2 := bdT v4_2; unfold bd at h9_v4_2; omega)
    | succ n4 ih4 =>
      intro v4_3 v4_2   hm4 f H locs ls g  hl
      refine lv_lload_n hx hb dX14_lettersOf_4 rfl (lv_at hl 0 rfl) ?_
      refine lv_lconst (v := 0) hx hb dX14_lettersOf_5 (by decide) ?_
      refine W.lcmp hx hb dX14_lettersOf_6 ?_
      refine lv_if_eq (tgt := 21) hx hb dX14_lettersOf_7 (by decide) (fun c_2 => ?_) (fun c_2 => ?_)
      · refine lv_iload_n hx hb dX14_lettersOf_21 rfl (lv_at hl 1 rfl) ?_
        subst hQ
        exact W.iret (v := v4_2) hx hb hr (fun t ht hW => ⟨⟨_, _, rfl, trivial, q3_of g hK ht hW⟩, g.2.2.1.F ht⟩) g.2.2.1.2.2 dX14_lettersOf_22
      · rw [lg_cmp_eq] at c_2
        have kb_1 : bd 1 1 (1 : Int32) := ⟨by decide, by decide⟩
        obtain ⟨y_3, ey_3⟩ : ∃ z : Int32, z = v4_2 + 1 := ⟨_, rfl⟩
        refine lv_iinc (v := y_3) (lv' := [(2, .int y_3), (3, .long v4_3), (0, .long x0_)]) hx hb dX14_lettersOf_10 hl (k := 1) rfl (by rw [ey_3]; rfl) (by decide) rfl (fun ls hl => ?_)
        refine lv_lload_n hx hb dX14_lettersOf_13 rfl (lv_at hl 1 rfl) ?_
        refine lv_bipush (v := 8) hx hb dX14_lettersOf_14 (by decide) ?_
        refine lv_lushr hx hb dX14_lettersOf_16 rfl ?_
        refine lv_topl (fun y_4 ey_4 => ?_)
        have hdy_4 := ush8 ey_4 c_2
        refine lv_lstore_n (lv' := [(3, .long y_4), (2, .int y_3), (0, .long x0_)]) hx hb dX14_lettersOf_17 rfl hl (by decide) rfl (fun ls hl => ?_)
        refine lv_goto (tgt := 4) hx hb dX14_lettersOf_18 (by decide) ?_
        have hl9 := lv_sub hl [0, 1, 2] (by rfl : lv_pick [(3, .long y_4), (2, .int y_3), (0, .long x0_)] [0, 1, 2] = [(3, .long y_4), (2, .int y_3), (0, .long x0_)])
        have g9 := g.sub (fx' := []) [] rfl
        exact ih4  y_4 y_3  (by have h9_0 := UInt64.toNat_lt y_4.toUInt64; have h9_1 := bdT v4_2; unfold bd at h9_1; have h9_2 := bdT y_3; unfold bd at h9_2; have h9_3 := kb_1; unfold bd at h9_3; omega) _ _ _ _ g9  hl9
  have kb_0 : bd 0 0 (0 : Int32) := ⟨by decide, by decide⟩
  have hl9 := lv_sub hl [0, 1, 2] (by rfl : lv_pick [(3, .long x0_), (2, .int 0), (0, .long x0_)] [0, 1, 2] = [(3, .long x0_), (2, .int 0), (0, .long x0_)])
  have g9 := g.sub (fx' := []) [] rfl
  exact loop_1 (18446744073709551616) x0_ 0  (by have h9_0 := UInt64.toNat_lt x0_.toUInt64; have h9_1 := kb_0; unfold bd at h9_1; omega) _ _ _ _ g9  hl9
set_option maxHeartbeats 4000000 in
set_option maxRecDepth 100000 in
theorem r_X14_thrown (l : Launch) (dC : Nat → ClassId) (dI : Nat → Nat → Nat) (L : List Nat) (kd : Nat → Nat) (tys : List (ClassId × FieldType)) (f0 : Nat → va_E) (sz : Nat) (hWT : WT L kd tys f0) (a0_ : Nat) (ma0_ : a0_ ∈ L) (ka0_ : kd a0_ = 14) (x1_ : Int32) : Met l yX14_thrown (.code yX14_thrown cX14_thrown 4 (some .int) :: lw_g) ({ frames := 1, cells := 0, slots := 0, locals := 25 }) (va_Pc [.ref a0_, .int x1_] (P3 (dC, dI) L tys f0 sz)) (va_Qi (fun (r : Int32) (f : Nat → va_E) => (True)) (Q3 (dC, dI) L kd tys [] [] f0 sz) (pA L sz)) 0 0 (pA L sz) := by
  refine Met.ofW (cc := cX14_thrown) (maxL := 4) (ret := (some .int)) (by decide) rfl ?_
  intro p e s m args below meth c s₁ B hml hv
  obtain ⟨rfl, hsz, hP, hK, hD0⟩ := hv
  have hx := B.exec
  have hb := B.bytes
  have hr := B.returns
  have hts := atoms_spec (ws := (.code yX14_thrown cX14_thrown 4 (some .int) :: lw_g)) B.pre
  have hown : s.vm.findClass RX14 = some m.cls := findClass_of_methodNamed B.named
  have hlocks := B.notSynchronized
  subst hsz
  have g : G3 (dC, dI) L kd tys s f0 [] [] f0 s.heap [] [] := G3.start hP hD0 hWT Fs.nil
  have hl := lv_entry ([.ref a0_, .int x1_]) (n := 4) (Nat.le_of_ble_eq_true rfl)
  rw [lg_entry_eq]
  generalize (lg_sl ([.ref a0_, .int x1_]) ++ List.replicate (4 - (lg_sl ([.ref a0_, .int x1_])).length) Slot.unset).toArray = ls at hl ⊢
  have hl : lv_has ls 4 [(0, .ref a0_), (1, .int x1_)] := hl
  refine W_q (fun Q hQ => ?_)
  refine lv_aload_n hx hb dX14_thrown_0 rfl (lv_at hl 0 rfl) ?_
  refine g_getl (C := RX14) (T := TX14) (N := 67) hx hb hts (mc_ inX14) hown hK g ma0_ ka0_ (by decide) rfl 39 (by decide) rfl (hts _ (List.mem_cons_of_mem _ t_2185)) (fun _ h9 => h9) rfl dX14_thrown_1 (fun x_1 g => ?_)
  refine g_calli (va_runS (As := [.long x_1]) (rest := []) ⟨hx, hb, hml, hown, hts⟩ (r_X14_lettersOf l dC dI L kd tys f0 s.heap.size g.2.2.2.1 x_1) (va_cwS 1 hts (gS_ t_2818 t_2819 t_198 t_2820) rfl rfl rfl (by decide +kernel) ⟨(Nat.le_of_ble_eq_true rfl), (Nat.le_of_ble_eq_true rfl)⟩) (pre3S g hK) rfl rfl hl.1 rfl (lv_room (Nat.le_of_ble_eq_true rfl)) dX14_thrown_4 ⟨(Nat.le_of_ble_eq_true rfl), (Nat.le_of_ble_eq_true rfl)⟩) g hK (by decide) (by decide) (fx' := [(14, 39, a0_, .long x_1)]) rfl (fun r_2 fr_2 H locs hp hMr_2 g => ?_)
  refine lv_istore_n (lv' := [(2, .int r_2), (0, .ref a0_), (1, .int x1_)]) hx hb dX14_thrown_7 rfl hl (by decide) rfl (fun ls hl => ?_)
  refine lv_aload_n hx hb dX14_thrown_8 rfl (lv_at hl 1 rfl) ?_
  refine g_getl (C := RX14) (T := TX14) (N := 67) hx hb hts (mc_ inX14) hown hK g ma0_ ka0_ (by decide) rfl 40 (by decide) rfl (hts _ (List.mem_cons_of_mem _ t_2186)) (fun _ h9 => h9) rfl dX14_thrown_9 (fun x_3 g => ?_)
  refine g_calli (va_runS (As := [.long x_3]) (rest := []) ⟨hx, hb, hml, hown, hts⟩ (r_X14_lettersOf l dC dI L kd tys fr_2 H.size g.2.2.2.1 x_3) (va_cwS 1 hts (gS_ t_2818 t_2819 t_198 t_2820) rfl rfl rfl (by decide +kernel) ⟨(Nat.le_of_ble_eq_true rfl), (Nat.le_of_ble_eq_true rfl)⟩) (pre3S g hK) rfl rfl hl.1 rfl (lv_room (Nat.le_of_ble_eq_true rfl)) dX14_thrown_12 ⟨(Nat.le_of_ble_eq_true rfl), (Nat.le_of_ble_eq_true rfl)⟩) g hK (by decide) (by decide) (fx' := [(14, 40, a0_, .long x_3), (14, 39, a0_, .long x_1)]) rfl (fun r_4 fr_4 H locs hp hMr_4 g => ?_)
  refine lv_istore_n (lv' := [(3, .int r_4), (2, .int r_2), (0, .ref a0_), (1, .int x1_)]) hx hb dX14_thrown_15 rfl hl (by decide) rfl (fun ls hl => ?_)
  refine lv_iload_n hx hb dX14_thrown_16 rfl (lv_at hl 3 rfl) ?_
  refine lv_i2l hx hb dX14_thrown_17 rfl ?_
  refine lv_topl (fun y_5 ey_5 => ?_)
  refine lv_lconst (v := 0) hx hb dX14_thrown_18 (by decide) ?_
  refine lv_iload_n hx hb dX14_thrown_19 rfl (lv_at hl 1 rfl) ?_
  refine lv_iload_n hx hb dX14_thrown_20 rfl (lv_at hl 0 rfl) ?_
  refine lv_iadd hx hb dX14_thrown_21 ?_
  refine lv_topi (fun y_6 ey_6 => ?_)
  refine lv_iconst (v := 1) hx hb dX14_thrown_22 (by decide) ?_
  have kb_1 : bd 1 1 (1 : Int32) := ⟨by decide, by decide⟩
  refine lv_isub hx hb dX14_thrown_23 ?_
  refine lv_topi (fun y_7 ey_7 => ?_)
  refine lv_i2l hx hb dX14_thrown_24 rfl ?_
  refine lv_topl (fun y_8 ey_8 => ?_)
  refine g_calli (va_runS (As := [.long y_5, .long 0, .long y_8]) (rest := []) ⟨hx, hb, hml, hown, hts⟩ (r_X14_in l dC dI L kd tys fr_4 H.size g.2.2.2.1 y_5 0 y_8) (va_cwS 3 hts (gS_ t_2448 t_2449 t_198 t_2450) rfl rfl rfl (by decide +kernel) ⟨(Nat.le_of_ble_eq_true rfl), (Nat.le_of_ble_eq_true rfl)⟩) (pre3S g hK) rfl rfl hl.1 rfl (lv_room (Nat.le_of_ble_eq_true rfl)) dX14_thrown_25 ⟨(Nat.le_of_ble_eq_true rfl), (Nat.le_of_ble_eq_true rfl)⟩) g hK (by decide) (by decide) (fx' := [(14, 40, a0_, .long x_3), (14, 39, a0_, .long x_1)]) rfl (fun r_9 fr_9 H locs hp hMr_9 g => ?_)
  rcases hp with ⟨hx_10, h_11, -⟩ | ⟨h_12, h_13, -⟩
  · obtain rfl : r_9 = 0 := h_11
    refine lv_if_ne (tgt := 33) hx hb dX14_thrown_28 (by decide) (fun c_ => absurd c_ (by decide)) (fun c_ => ?_)
    refine lv_iconst (v := (-1)) hx hb dX14_thrown_31 (by decide) ?_
    subst hQ
    exact W.iret (v := (-1)) hx hb hr (fun t ht hW => ⟨⟨_, _, rfl, trivial, q3_of g hK ht hW⟩, g.2.2.1.F ht⟩) g.2.2.1.2.2 dX14_thrown_32
  · obtain rfl : r_9 = 1 := h_12
    have f_14 : (0 : Int32).toInt ≤ x1_.toInt := in_le h_13.1 (in_k (k := 0) (by decide) (by decide)) (in_v ey_5)
    have f_15 : x1_.toInt ≤ y_7.toInt := in_le h_13.2 (in_v ey_5) (in_v ey_8)
    have kb_0 : bd 0 0 (0 : Int32) := ⟨by decide, by decide⟩
    have b_16 : bd 0 2147483647 x1_ := leR f_14 kb_0 (bdT x1_) (by decide)
    have b_17 : bd 0 2147483647 y_7 := leR f_15 b_16 (bdT y_7) (by decide)
    refine lv_if_ne (tgt := 33) hx hb dX14_thrown_28 (by decide) (fun c_ => ?_) (fun c_ => absurd c_ (by decide))
    refine lv_iload_n hx hb dX14_thrown_33 rfl (lv_at hl 3 rfl) ?_
    refine lv_iload_n hx hb dX14_thrown_34 rfl (lv_at hl 1 rfl) ?_
    refine lv_icmp_ge (tgt := 54) hx hb dX14_thrown_35 (by decide) (fun c_18 => ?_) (fun c_18 => ?_)
    · have fc_18 := le_f c_18
      refine lv_aload_n hx hb dX14_thrown_54 rfl (lv_at hl 2 rfl) ?_
      refine g_getk (C := RX14) (T := TX14) (N := 67) hx hb hts (mc_ inX14) hown hK g rfl 40 (by decide) rfl (hts _ (List.mem_cons_of_mem _ t_2186)) (fun _ h9 => h9) 0 rfl dX14_thrown_55 ?_
      refine lv_bipush (v := 8) hx hb dX14_thrown_58 (by decide) ?_
      refine lv_iload_n hx hb dX14_thrown_60 rfl (lv_at hl 1 rfl) ?_
      refine lv_iload_n hx hb dX14_thrown_61 rfl (lv_at hl 0 rfl) ?_
      refine lv_iadd hx hb dX14_thrown_62 ?_
      refine lv_topi (fun y_19 ey_19 => ?_)
      obtain rfl : y_6 = y_19 := ey_6.trans ey_19.symm
      refine lv_iconst (v := 1) hx hb dX14_thrown_63 (by decide) ?_
      refine lv_isub hx hb dX14_thrown_64 ?_
      refine lv_topi (fun y_20 ey_20 => ?_)
      obtain rfl : y_7 = y_20 := ey_7.trans ey_20.symm
      refine lv_iload_n hx hb dX14_thrown_65 rfl (lv_at hl 3 rfl) ?_
      refine lv_isub hx hb dX14_thrown_66 ?_
      refine lv_topi (fun y_21 ey_21 => ?_)
      have ty_21 := sub_bd ey_21 b_17 b_16 (by decide)
      have b_22 : bd 0 2147483647 y_21 := sub_rel0 ty_21 f_15 b_17 b_16 (by decide)
      refine lv_imul hx hb dX14_thrown_67 ?_
      refine lv_topi (fun y_23 ey_23 => ?_)
      refine lv_lshr hx hb dX14_thrown_68 rfl ?_
      refine lv_topl (fun y_24 ey_24 => ?_)
      refine lv_ldc2 (v := 255) hx hb hown (hts _ (List.mem_cons_of_mem _ t_2821)) dX14_thrown_69 ?_
      refine lv_land hx hb dX14_thrown_72 ?_
      refine lv_topl (fun y_25 ey_25 => ?_)
      refine lv_l2i hx hb dX14_thrown_73 rfl ?_
      refine lv_topi (fun y_26 ey_26 => ?_)
      subst hQ
      exact W.iret (v := y_26) hx hb hr (fun t ht hW => ⟨⟨_, _, rfl, trivial, q3_of g hK ht hW⟩, g.2.2.1.F ht⟩) g.2.2.1.2.2 dX14_thrown_74
    · have fc_18 := nle_f c_18
      have b_27 : bd 0 2147483646 x1_ := ltL fc_18 b_16 (bdT r_2) (by decide)
      have b_28 : bd 1 2147483647 r_2 := ltR fc_18 b_16 (bdT r_2) (by decide)
      refine lv_aload_n hx hb dX14_thrown_38 rfl (lv_at hl 2 rfl) ?_
      refine g_getk (C := RX14) (T := TX14) (N := 67) hx hb hts (mc_ inX14) hown hK g rfl 39 (by decide) rfl (hts _ (List.mem_cons_of_mem _ t_2185)) (fun _ h9 => h9) 1 rfl dX14_thrown_39 ?_
      refine lv_bipush (v := 8) hx hb dX14_thrown_42 (by decide) ?_
      refine lv_iload_n hx hb dX14_thrown_44 rfl (lv_at hl 1 rfl) ?_
      refine lv_iconst (v := 1) hx hb dX14_thrown_45 (by decide) ?_
      refine lv_isub hx hb dX14_thrown_46 ?_
      refine lv_topi (fun y_29 ey_29 => ?_)
      have ty_29 := sub_bd ey_29 b_28 kb_1 (by decide)
      have b_30 : bd 0 2147483646 y_29 := sub_rg ty_29 b_28 kb_1 (by decide)
      refine lv_iload_n hx hb dX14_thrown_47 rfl (lv_at hl 3 rfl) ?_
      refine lv_isub hx hb dX14_thrown_48 ?_
      refine lv_topi (fun y_31 ey_31 => ?_)
      have ty_31 := sub_bd ey_31 b_30 b_27 (by decide)
      have b_32 : bd (-2147483646) 2147483646 y_31 := sub_rg ty_31 b_30 b_27 (by decide)
      refine lv_imul hx hb dX14_thrown_49 ?_
      refine lv_topi (fun y_33 ey_33 => ?_)
      refine lv_lshr hx hb dX14_thrown_50 rfl ?_
      refine lv_topl (fun y_34 ey_34 => ?_)
      refine lv_goto (tgt := 69) hx hb dX14_thrown_51 (by decide) ?_
      refine lv_ldc2 (v := 255) hx hb hown (hts _ (List.mem_cons_of_mem _ t_2821)) dX14_thrown_69 ?_
      refine lv_land hx hb dX14_thrown_72 ?_
      refine lv_topl (fun y_35 ey_35 => ?_)
      refine lv_l2i hx hb dX14_thrown_73 rfl ?_
      refine lv_topi (fun y_36 ey_36 => ?_)
      subst hQ
      exact W.iret (v := y_36) hx hb hr (fun t ht hW => ⟨⟨_, _, rfl, trivial, q3_of g hK ht hW⟩, g.2.2.1.F ht⟩) g.2.2.1.2.2 dX14_thrown_74
set_option maxHeartbeats 4000000 in
set_option maxRecDepth 100000 in
theorem r_X14_row (l : Launch) (dC : Nat → ClassId) (dI : Nat → Nat → Nat) (L : List Nat) (kd : Nat → Nat) (tys : List (ClassId × FieldType)) (f0 : Nat → va_E) (sz : Nat) (hWT : WT L kd tys f0) (a0_ : Nat) (ma0_ : a0_ ∈ L) (ka0_ : kd a0_ = 14) : Met l yX14_row (.code yX14_row cX14_row 1 (some .int) :: lw_g) ({ frames := 0, cells := 0, slots := 0, locals := 0 }) (va_Pc [.ref a0_] (P3 (dC, dI) L tys f0 sz)) (va_Qi (fun (r : Int32) (f : Nat → va_E) => (bd 0 10 r ∧ True)) (Q3 (dC, dI) L kd tys [] [] f0 sz) (pA L sz)) 0 0 (pA L sz) := by
  refine Met.ofW (cc := cX14_row) (maxL := 1) (ret := (some .int)) (by decide) rfl ?_
  intro p e s m args below meth c s₁ B hml hv
  obtain ⟨rfl, hsz, hP, hK, hD0⟩ := hv
  have hx := B.exec
  have hb := B.bytes
  have hr := B.returns
  have hts := atoms_spec (ws := (.code yX14_row cX14_row 1 (some .int) :: lw_g)) B.pre
  have hown : s.vm.findClass RX14 = some m.cls := findClass_of_methodNamed B.named
  have hlocks := B.notSynchronized
  subst hsz
  have g : G3 (dC, dI) L kd tys s f0 [] [] f0 s.heap [] [] := G3.start hP hD0 hWT Fs.nil
  have hl := lv_entry ([.ref a0_]) (n := 1) (Nat.le_of_ble_eq_true rfl)
  rw [lg_entry_eq]
  generalize (lg_sl ([.ref a0_]) ++ List.replicate (1 - (lg_sl ([.ref a0_])).length) Slot.unset).toArray = ls at hl ⊢
  have hl : lv_has ls 1 [(0, .ref a0_)] := hl
  refine W_q (fun Q hQ => ?_)
  refine lv_aload_n hx hb dX14_row_0 rfl (lv_at hl 0 rfl) ?_
  refine g_geti (C := RX14) (T := TX14) (N := 67) hx hb hts (mc_ inX14) hown hK g ma0_ ka0_ (by decide) rfl 51 (by decide) rfl (hts _ (List.mem_cons_of_mem _ t_2197)) (fun _ h9 => h9) rfl dX14_row_1 (fun x_1 bx_1 g => ?_)
  subst hQ
  exact W.iret (v := x_1) hx hb hr (fun t ht hW => ⟨⟨_, _, rfl, ⟨bx_1, trivial⟩, q3_of g hK ht hW⟩, g.2.2.1.F ht⟩) g.2.2.1.2.2 dX14_row_4
set_option maxHeartbeats 4000000 in
set_option maxRecDepth 100000 in
theorem r_X14_told (l : Launch) (dC : Nat → ClassId) (dI : Nat → Nat → Nat) (L : List Nat) (kd : Nat → Nat) (tys : List (ClassId × FieldType)) (f0 : Nat → va_E) (sz : Nat) (hWT : WT L kd tys f0) (a0_ : Nat) (ma0_ : a0_ ∈ L) (ka0_ : kd a0_ = 14) (x1_ : Int32) (x2_ : Int32) : Met l yX14_told (.code yX14_told cX14_told 3 (some .int) :: lw_g) ({ frames := 1, cells := 0, slots := 0, locals := 25 }) (va_Pc [.ref a0_, .int x1_, .int x2_] (P3 (dC, dI) L tys f0 sz)) (va_Qi (fun (r : Int32) (f : Nat → va_E) => (True)) (Q3 (dC, dI) L kd tys [] [] f0 sz) (pA L sz)) 0 0 (pA L sz) := by
  refine Met.ofW (cc := cX14_told) (maxL := 3) (ret := (some .int)) (by decide) rfl ?_
  intro p e s m args below meth c s₁ B hml hv
  obtain ⟨rfl, hsz, hP, hK, hD0⟩ := hv
  have hx := B.exec
  have hb := B.bytes
  have hr := B.returns
  have hts := atoms_spec (ws := (.code yX14_told cX14_told 3 (some .int) :: lw_g)) B.pre
  have hown : s.vm.findClass RX14 = some m.cls := findClass_of_methodNamed B.named
  have hlocks := B.notSynchronized
  subst hsz
  have g : G3 (dC, dI) L kd tys s f0 [] [] f0 s.heap [] [] := G3.start hP hD0 hWT Fs.nil
  have hl := lv_entry ([.ref a0_, .int x1_, .int x2_]) (n := 3) (Nat.le_of_ble_eq_true rfl)
  rw [lg_entry_eq]
  generalize (lg_sl ([.ref a0_, .int x1_, .int x2_]) ++ List.replicate (3 - (lg_sl ([.ref a0_, .int x1_, .int x2_])).length) Slot.unset).toArray = ls at hl ⊢
  have hl : lv_has ls 3 [(0, .ref a0_), (1, .int x1_), (2, .int x2_)] := hl
  refine W_q (fun Q hQ => ?_)
  refine lv_iload_n hx hb dX14_told_0 rfl (lv_at hl 1 rfl) ?_
  refine lv_i2l hx hb dX14_told_1 rfl ?_
  refine lv_topl (fun y_1 ey_1 => ?_)
  refine lv_lconst (v := 0) hx hb dX14_told_2 (by decide) ?_
  refine lv_aload_n hx hb dX14_told_3 rfl (lv_at hl 0 rfl) ?_
  refine g_geti (C := RX14) (T := TX14) (N := 67) hx hb hts (mc_ inX14) hown hK g ma0_ ka0_ (by decide) rfl 51 (by decide) rfl (hts _ (List.mem_cons_of_mem _ t_2197)) (fun _ h9 => h9) rfl dX14_told_4 (fun x_2 bx_2 g => ?_)
  refine lv_iconst (v := 1) hx hb dX14_told_7 (by decide) ?_
  have kb_1 : bd 1 1 (1 : Int32) := ⟨by decide, by decide⟩
  refine lv_isub hx hb dX14_told_8 ?_
  refine lv_topi (fun y_3 ey_3 => ?_)
  have ty_3 := sub_bd ey_3 bx_2 kb_1 (by decide)
  have b_4 : bd (-1) 9 y_3 := sub_rg ty_3 bx_2 kb_1 (by decide)
  refine lv_i2l hx hb dX14_told_9 rfl ?_
  refine lv_topl (fun y_5 ey_5 => ?_)
  refine g_calli (va_runS (As := [.long y_1, .long 0, .long y_5]) (rest := []) ⟨hx, hb, hml, hown, hts⟩ (r_X14_in l dC dI L kd tys f0 s.heap.size g.2.2.2.1 y_1 0 y_5) (va_cwS 3 hts (gS_ t_2448 t_2449 t_198 t_2450) rfl rfl rfl (by decide +kernel) ⟨(Nat.le_of_ble_eq_true rfl), (Nat.le_of_ble_eq_true rfl)⟩) (pre3S g hK) rfl rfl hl.1 rfl (lv_room (Nat.le_of_ble_eq_true rfl)) dX14_told_10 ⟨(Nat.le_of_ble_eq_true rfl), (Nat.le_of_ble_eq_true rfl)⟩) g hK (by decide) (by decide) (fx' := [(14, 51, a0_, .int x_2)]) rfl (fun r_6 fr_6 H locs hp hMr_6 g => ?_)
  rcases hp with ⟨hx_7, h_8, -⟩ | ⟨h_9, h_10, -⟩
  · obtain rfl : r_6 = 0 := h_8
    refine lv_if_ne (tgt := 18) hx hb dX14_told_13 (by decide) (fun c_ => absurd c_ (by decide)) (fun c_ => ?_)
    refine lv_iconst (v := (-1)) hx hb dX14_told_16 (by decide) ?_
    subst hQ
    exact W.iret (v := (-1)) hx hb hr (fun t ht hW => ⟨⟨_, _, rfl, trivial, q3_of g hK ht hW⟩, g.2.2.1.F ht⟩) g.2.2.1.2.2 dX14_told_17
  · obtain rfl : r_6 = 1 := h_9
    have f_11 : (0 : Int32).toInt ≤ x1_.toInt := in_le h_10.1 (in_k (k := 0) (by decide) (by decide)) (in_v ey_1)
    have f_12 : x1_.toInt ≤ y_3.toInt := in_le h_10.2 (in_v ey_1) (in_v ey_5)
    have kb_0 : bd 0 0 (0 : Int32) := ⟨by decide, by decide⟩
    have b_13 : bd 0 2147483647 x1_ := leR f_11 kb_0 (bdT x1_) (by decide)
    have b_14 : bd 0 9 x1_ := leL f_12 b_13 b_4 (by decide)
    have b_15 : bd 0 9 y_3 := leR f_12 b_13 b_4 (by decide)
    have b_16 : bd 1 10 x_2 := sub_inv ty_3 b_15 bx_2 kb_1 (by decide)
    refine lv_if_ne (tgt := 18) hx hb dX14_told_13 (by decide) (fun c_ => ?_) (fun c_ => absurd c_ (by decide))
    refine lv_iload_n hx hb dX14_told_18 rfl (lv_at hl 2 rfl) ?_
    by_cases e_17 : x2_ = 0
    · refine lv_topi (fun z_18 ez_18 => ?_)
      obtain rfl : z_18 = 0 := ez_18.trans e_17
      have b_19 : bd 0 0 x2_ := eqX (eq_f e_17) (bdT x2_) kb_0 (by decide)
      refine lv_tableIn (off := 41) (tgt := 60) hx hb dX14_told_19 (by decide) (by decide) rfl (by decide) ?_
      refine lv_aload_n hx hb dX14_told_60 rfl (lv_at hl 0 rfl) ?_
      refine g_getr (K := 222) (C := RX14) (T := TX14) (N := 67) hx hb hts (mc_ inX14) hown hK g ma0_ ka0_ (by decide) rfl 46 (by decide) rfl (hts _ (List.mem_cons_of_mem _ t_2192)) (fun _ h9 => h9) rfl dX14_told_61 (fun a_20 ma_20 ka_20 g => ?_)
      refine lv_iload_n hx hb dX14_told_64 rfl (lv_at hl 1 rfl) ?_
      refine g_iald hx hb hK g ma_20 ka_20 (by decide) rfl (in_bd b_14 (by decide)) dX14_told_65 (fun x_21 bx_21 cx_21 => ?_)
      subst hQ
      exact W.iret (v := x_21) hx hb hr (fun t ht hW => ⟨⟨_, _, rfl, trivial, q3_of g hK ht hW⟩, g.2.2.1.F ht⟩) g.2.2.1.2.2 dX14_told_66
    by_cases e_22 : x2_ = 1
    · refine lv_topi (fun z_23 ez_23 => ?_)
      obtain rfl : z_23 = 1 := ez_23.trans e_22
      have b_24 : bd 1 1 x2_ := eqX (eq_f e_22) (bdT x2_) kb_1 (by decide)
      refine lv_tableIn (off := 48) (tgt := 67) hx hb dX14_told_19 (by decide) (by decide) rfl (by decide) ?_
      refine lv_aload_n hx hb dX14_told_67 rfl (lv_at hl 0 rfl) ?_
      refine g_getr (K := 223) (C := RX14) (T := TX14) (N := 67) hx hb hts (mc_ inX14) hown hK g ma0_ ka0_ (by decide) rfl 47 (by decide) rfl (hts _ (List.mem_cons_of_mem _ t_2193)) (fun _ h9 => h9) rfl dX14_told_68 (fun a_25 ma_25 ka_25 g => ?_)
      refine lv_iload_n hx hb dX14_told_71 rfl (lv_at hl 1 rfl) ?_
      refine g_iald hx hb hK g ma_25 ka_25 (by decide) rfl (in_bd b_14 (by decide)) dX14_told_72 (fun x_26 bx_26 cx_26 => ?_)
      subst hQ
      exact W.iret (v := x_26) hx hb hr (fun t ht hW => ⟨⟨_, _, rfl, trivial, q3_of g hK ht hW⟩, g.2.2.1.F ht⟩) g.2.2.1.2.2 dX14_told_73
    by_cases e_27 : x2_ = 2
    · refine lv_topi (fun z_28 ez_28 => ?_)
      obtain rfl : z_28 = 2 := ez_28.trans e_27
      have kb_2 : bd 2 2 (2 : Int32) := ⟨by decide, by decide⟩
      have b_29 : bd 2 2 x2_ := eqX (eq_f e_27) (bdT x2_) kb_2 (by decide)
      refine lv_tableIn (off := 55) (tgt := 74) hx hb dX14_told_19 (by decide) (by decide) rfl (by decide) ?_
      refine lv_aload_n hx hb dX14_told_74 rfl (lv_at hl 0 rfl) ?_
      refine g_getr (K := 224) (C := RX14) (T := TX14) (N := 67) hx hb hts (mc_ inX14) hown hK g ma0_ ka0_ (by decide) rfl 48 (by decide) rfl (hts _ (List.mem_cons_of_mem _ t_2194)) (fun _ h9 => h9) rfl dX14_told_75 (fun a_30 ma_30 ka_30 g => ?_)
      refine lv_iconst (v := 3) hx hb dX14_told_78 (by decide) ?_
      refine lv_iload_n hx hb dX14_told_79 rfl (lv_at hl 1 rfl) ?_
      refine lv_imul hx hb dX14_told_80 ?_
      refine lv_topi (fun y_31 ey_31 => ?_)
      have ty_31 := cmul_bd ey_31 (c := 3) (by decide) b_14 (by decide)
      have b_32 : bd 0 27 y_31 := mulc_rg ty_31 b_14 (by decide)
      refine lv_iload_n hx hb dX14_told_81 rfl (lv_at hl 2 rfl) ?_
      refine lv_iadd hx hb dX14_told_82 ?_
      refine lv_topi (fun y_33 ey_33 => ?_)
      have ty_33 := add_bd ey_33 b_32 b_29 (by decide)
      have b_34 : bd 2 29 y_33 := add_rg ty_33 b_32 b_29 (by decide)
      refine lv_iconst (v := 2) hx hb dX14_told_83 (by decide) ?_
      refine lv_isub hx hb dX14_told_84 ?_
      refine lv_topi (fun y_35 ey_35 => ?_)
      have ty_35 := sub_bd ey_35 b_34 kb_2 (by decide)
      have b_36 : bd 0 27 y_35 := sub_rg ty_35 b_34 kb_2 (by decide)
      refine g_iald hx hb hK g ma_30 ka_30 (by decide) rfl (in_bd b_36 (by decide)) dX14_told_85 (fun x_37 bx_37 cx_37 => ?_)
      subst hQ
      exact W.iret (v := x_37) hx hb hr (fun t ht hW => ⟨⟨_, _, rfl, trivial, q3_of g hK ht hW⟩, g.2.2.1.F ht⟩) g.2.2.1.2.2 dX14_told_86
    by_cases e_38 : x2_ = 3
    · refine lv_topi (fun z_39 ez_39 => ?_)
      obtain rfl : z_39 = 3 := ez_39.trans e_38
      have kb_3 : bd 3 3 (3 : Int32) := ⟨by decide, by decide⟩
      have b_40 : bd 3 3 x2_ := eqX (eq_f e_38) (bdT x2_) kb_3 (by decide)
      refine lv_tableIn (off := 55) (tgt := 74) hx hb dX14_told_19 (by decide) (by decide) rfl (by decide) ?_
      refine lv_aload_n hx hb dX14_told_74 rfl (lv_at hl 0 rfl) ?_
      refine g_getr (K := 224) (C := RX14) (T := TX14) (N := 67) hx hb hts (mc_ inX14) hown hK g ma0_ ka0_ (by decide) rfl 48 (by decide) rfl (hts _ (List.mem_cons_of_mem _ t_2194)) (fun _ h9 => h9) rfl dX14_told_75 (fun a_41 ma_41 ka_41 g => ?_)
      refine lv_iconst (v := 3) hx hb dX14_told_78 (by decide) ?_
      refine lv_iload_n hx hb dX14_told_79 rfl (lv_at hl 1 rfl) ?_
      refine lv_imul hx hb dX14_told_80 ?_
      refine lv_topi (fun y_42 ey_42 => ?_)
      have ty_42 := cmul_bd ey_42 (c := 3) (by decide) b_14 (by decide)
      have b_43 : bd 0 27 y_42 := mulc_rg ty_42 b_14 (by decide)
      refine lv_iload_n hx hb dX14_told_81 rfl (lv_at hl 2 rfl) ?_
      refine lv_iadd hx hb dX14_told_82 ?_
      refine lv_topi (fun y_44 ey_44 => ?_)
      have ty_44 := add_bd ey_44 b_43 b_40 (by decide)
      have b_45 : bd 3 30 y_44 := add_rg ty_44 b_43 b_40 (by decide)
      refine lv_iconst (v := 2) hx hb dX14_told_83 (by decide) ?_
      have kb_2 : bd 2 2 (2 : Int32) := ⟨by decide, by decide⟩
      refine lv_isub hx hb dX14_told_84 ?_
      refine lv_topi (fun y_46 ey_46 => ?_)
      have ty_46 := sub_bd ey_46 b_45 kb_2 (by decide)
      have b_47 : bd 1 28 y_46 := sub_rg ty_46 b_45 kb_2 (by decide)
      refine g_iald hx hb hK g ma_41 ka_41 (by decide) rfl (in_bd b_47 (by decide)) dX14_told_85 (fun x_48 bx_48 cx_48 => ?_)
      subst hQ
      exact W.iret (v := x_48) hx hb hr (fun t ht hW => ⟨⟨_, _, rfl, trivial, q3_of g hK ht hW⟩, g.2.2.1.F ht⟩) g.2.2.1.2.2 dX14_told_86
    by_cases e_49 : x2_ = 4
    · refine lv_topi (fun z_50 ez_50 => ?_)
      obtain rfl : z_50 = 4 := ez_50.trans e_49
      have kb_4 : bd 4 4 (4 : Int32) := ⟨by decide, by decide⟩
      have b_51 : bd 4 4 x2_ := eqX (eq_f e_49) (bdT x2_) kb_4 (by decide)
      refine lv_tableIn (off := 55) (tgt := 74) hx hb dX14_told_19 (by decide) (by decide) rfl (by decide) ?_
      refine lv_aload_n hx hb dX14_told_74 rfl (lv_at hl 0 rfl) ?_
      refine g_getr (K := 224) (C := RX14) (T := TX14) (N := 67) hx hb hts (mc_ inX14) hown hK g ma0_ ka0_ (by decide) rfl 48 (by decide) rfl (hts _ (List.mem_cons_of_mem _ t_2194)) (fun _ h9 => h9) rfl dX14_told_75 (fun a_52 ma_52 ka_52 g => ?_)
      refine lv_iconst (v := 3) hx hb dX14_told_78 (by decide) ?_
      refine lv_iload_n hx hb dX14_told_79 rfl (lv_at hl 1 rfl) ?_
      refine lv_imul hx hb dX14_told_80 ?_
      refine lv_topi (fun y_53 ey_53 => ?_)
      have ty_53 := cmul_bd ey_53 (c := 3) (by decide) b_14 (by decide)
      have b_54 : bd 0 27 y_53 := mulc_rg ty_53 b_14 (by decide)
      refine lv_iload_n hx hb dX14_told_81 rfl (lv_at hl 2 rfl) ?_
      refine lv_iadd hx hb dX14_told_82 ?_
      refine lv_topi (fun y_55 ey_55 => ?_)
      have ty_55 := add_bd ey_55 b_54 b_51 (by decide)
      have b_56 : bd 4 31 y_55 := add_rg ty_55 b_54 b_51 (by decide)
      refine lv_iconst (v := 2) hx hb dX14_told_83 (by decide) ?_
      have kb_2 : bd 2 2 (2 : Int32) := ⟨by decide, by decide⟩
      refine lv_isub hx hb dX14_told_84 ?_
      refine lv_topi (fun y_57 ey_57 => ?_)
      have ty_57 := sub_bd ey_57 b_56 kb_2 (by decide)
      have b_58 : bd 2 29 y_57 := sub_rg ty_57 b_56 kb_2 (by decide)
      refine g_iald hx hb hK g ma_52 ka_52 (by decide) rfl (in_bd b_58 (by decide)) dX14_told_85 (fun x_59 bx_59 cx_59 => ?_)
      subst hQ
      exact W.iret (v := x_59) hx hb hr (fun t ht hW => ⟨⟨_, _, rfl, trivial, q3_of g hK ht hW⟩, g.2.2.1.F ht⟩) g.2.2.1.2.2 dX14_told_86
    by_cases e_60 : x2_ = 5
    · refine lv_topi (fun z_61 ez_61 => ?_)
      obtain rfl : z_61 = 5 := ez_61.trans e_60
      have kb_5 : bd 5 5 (5 : Int32) := ⟨by decide, by decide⟩
      have b_62 : bd 5 5 x2_ := eqX (eq_f e_60) (bdT x2_) kb_5 (by decide)
      refine lv_tableIn (off := 68) (tgt := 87) hx hb dX14_told_19 (by decide) (by decide) rfl (by decide) ?_
      refine lv_aload_n hx hb dX14_told_87 rfl (lv_at hl 0 rfl) ?_
      refine g_getr (K := 225) (C := RX14) (T := TX14) (N := 67) hx hb hts (mc_ inX14) hown hK g ma0_ ka0_ (by decide) rfl 49 (by decide) rfl (hts _ (List.mem_cons_of_mem _ t_2195)) (fun _ h9 => h9) rfl dX14_told_88 (fun a_63 ma_63 ka_63 g => ?_)
      refine lv_iload_n hx hb dX14_told_91 rfl (lv_at hl 1 rfl) ?_
      refine g_iald hx hb hK g ma_63 ka_63 (by decide) rfl (in_bd b_14 (by decide)) dX14_told_92 (fun x_64 bx_64 cx_64 => ?_)
      subst hQ
      exact W.iret (v := x_64) hx hb hr (fun t ht hW => ⟨⟨_, _, rfl, trivial, q3_of g hK ht hW⟩, g.2.2.1.F ht⟩) g.2.2.1.2.2 dX14_told_93
    by_cases e_65 : x2_ = 6
    · refine lv_topi (fun z_66 ez_66 => ?_)
      obtain rfl : z_66 = 6 := ez_66.trans e_65
      have kb_6 : bd 6 6 (6 : Int32) := ⟨by decide, by decide⟩
      have b_67 : bd 6 6 x2_ := eqX (eq_f e_65) (bdT x2_) kb_6 (by decide)
      refine lv_tableIn (off := 75) (tgt := 94) hx hb dX14_told_19 (by decide) (by decide) rfl (by decide) ?_
      refine lv_aload_n hx hb dX14_told_94 rfl (lv_at hl 0 rfl) ?_
      refine g_getr (K := 226) (C := RX14) (T := TX14) (N := 67) hx hb hts (mc_ inX14) hown hK g ma0_ ka0_ (by decide) rfl 50 (by decide) rfl (hts _ (List.mem_cons_of_mem _ t_2196)) (fun _ h9 => h9) rfl dX14_told_95 (fun a_68 ma_68 ka_68 g => ?_)
      refine lv_iload_n hx hb dX14_told_98 rfl (lv_at hl 1 rfl) ?_
      refine g_iald hx hb hK g ma_68 ka_68 (by decide) rfl (in_bd b_14 (by decide)) dX14_told_99 (fun x_69 bx_69 cx_69 => ?_)
      subst hQ
      exact W.iret (v := x_69) hx hb hr (fun t ht hW => ⟨⟨_, _, rfl, trivial, q3_of g hK ht hW⟩, g.2.2.1.F ht⟩) g.2.2.1.2.2 dX14_told_100
    refine lv_tableOut (tgt := 101) hx hb dX14_told_19 (by have a0 : x2_.toInt ≠ 0 := fun h => e_17 (Int32.toInt_inj.mp (h.trans (by decide))); have a1 : x2_.toInt ≠ 1 := fun h => e_22 (Int32.toInt_inj.mp (h.trans (by decide))); have a2 : x2_.toInt ≠ 2 := fun h => e_27 (Int32.toInt_inj.mp (h.trans (by decide))); have a3 : x2_.toInt ≠ 3 := fun h => e_38 (Int32.toInt_inj.mp (h.trans (by decide))); have a4 : x2_.toInt ≠ 4 := fun h => e_49 (Int32.toInt_inj.mp (h.trans (by decide))); have a5 : x2_.toInt ≠ 5 := fun h => e_60 (Int32.toInt_inj.mp (h.trans (by decide))); have a6 : x2_.toInt ≠ 6 := fun h => e_65 (Int32.toInt_inj.mp (h.trans (by decide))); omega) (by decide) ?_
    refine lv_iconst (v := (-1)) hx hb dX14_told_101 (by decide) ?_
    subst hQ
    exact W.iret (v := (-1)) hx hb hr (fun t ht hW => ⟨⟨_, _, rfl, trivial, q3_of g hK ht hW⟩, g.2.2.1.F ht⟩) g.2.2.1.2.2 dX14_told_102
set_option maxHeartbeats 4000000 in
set_option maxRecDepth 100000 in
theorem r_X14_beside (l : Launch) (dC : Nat → ClassId) (dI : Nat → Nat → Nat) (L : List Nat) (kd : Nat → Nat) (tys : List (ClassId × FieldType)) (f0 : Nat → va_E) (sz : Nat) (hWT : WT L kd tys f0) (a0_ : Nat) (ma0_ : a0_ ∈ L) (ka0_ : kd a0_ = 14) (x1_ : Int32) (x2_ : Int32) : Met l yX14_beside (.code yX14_beside cX14_beside 4 (some .long) :: lw_g) ({ frames := 1, cells := 0, slots := 0, locals := 25 }) (va_Pc [.ref a0_, .int x1_, .int x2_] (P3 (dC, dI) L tys f0 sz)) (va_Ql (fun (r : Int64) (f : Nat → va_E) => (True)) (Q3 (dC, dI) L kd tys [] [] f0 sz) (pA L sz)) 0 0 (pA L sz) := by
  refine Met.ofW (cc := cX14_beside) (maxL := 4) (ret := (some .long)) (by decide) rfl ?_
  intro p e s m args below meth c s₁ B hml hv
  obtain ⟨rfl, hsz, hP, hK, hD0⟩ := hv
  have hx := B.exec
  have hb := B.bytes
  have hr := B.returns
  have hts := atoms_spec (ws := (.code yX14_beside cX14_beside 4 (some .long) :: lw_g)) B.pre
  have hown : s.vm.findClass RX14 = some m.cls := findClass_of_methodNamed B.named
  have hlocks := B.notSynchronized
  subst hsz
  have g : G3 (dC, dI) L kd tys s f0 [] [] f0 s.heap [] [] := G3.start hP hD0 hWT Fs.nil
  have hl := lv_entry ([.ref a0_, .int x1_, .int x2_]) (n := 4) (Nat.le_of_ble_eq_true rfl)
  rw [lg_entry_eq]
  generalize (lg_sl ([.ref a0_, .int x1_, .int x2_]) ++ List.replicate (4 - (lg_sl ([.ref a0_, .int x1_, .int x2_])).length) Slot.unset).toArray = ls at hl ⊢
  have hl : lv_has ls 4 [(0, .ref a0_), (1, .int x1_), (2, .int x2_)] := hl
  refine W_q (fun Q hQ => ?_)
  refine lv_iload_n hx hb dX14_beside_0 rfl (lv_at hl 1 rfl) ?_
  refine lv_i2l hx hb dX14_beside_1 rfl ?_
  refine lv_topl (fun y_1 ey_1 => ?_)
  refine lv_lconst (v := 0) hx hb dX14_beside_2 (by decide) ?_
  refine lv_aload_n hx hb dX14_beside_3 rfl (lv_at hl 0 rfl) ?_
  refine g_geti (C := RX14) (T := TX14) (N := 67) hx hb hts (mc_ inX14) hown hK g ma0_ ka0_ (by decide) rfl 30 (by decide) rfl (hts _ (List.mem_cons_of_mem _ t_2176)) (fun _ h9 => h9) rfl dX14_beside_4 (fun x_2 bx_2 g => ?_)
  refine lv_iconst (v := 1) hx hb dX14_beside_7 (by decide) ?_
  have kb_1 : bd 1 1 (1 : Int32) := ⟨by decide, by decide⟩
  refine lv_isub hx hb dX14_beside_8 ?_
  refine lv_topi (fun y_3 ey_3 => ?_)
  have ty_3 := sub_bd ey_3 bx_2 kb_1 (by decide)
  have b_4 : bd (-1) 2 y_3 := sub_rg ty_3 bx_2 kb_1 (by decide)
  refine lv_i2l hx hb dX14_beside_9 rfl ?_
  refine lv_topl (fun y_5 ey_5 => ?_)
  refine g_calli (va_runS (As := [.long y_1, .long 0, .long y_5]) (rest := []) ⟨hx, hb, hml, hown, hts⟩ (r_X14_in l dC dI L kd tys f0 s.heap.size g.2.2.2.1 y_1 0 y_5) (va_cwS 3 hts (gS_ t_2448 t_2449 t_198 t_2450) rfl rfl rfl (by decide +kernel) ⟨(Nat.le_of_ble_eq_true rfl), (Nat.le_of_ble_eq_true rfl)⟩) (pre3S g hK) rfl rfl hl.1 rfl (lv_room (Nat.le_of_ble_eq_true rfl)) dX14_beside_10 ⟨(Nat.le_of_ble_eq_true rfl), (Nat.le_of_ble_eq_true rfl)⟩) g hK (by decide) (by decide) (fx' := [(14, 30, a0_, .int x_2)]) rfl (fun r_6 fr_6 H locs hp hMr_6 g => ?_)
  rcases hp with ⟨hx_7, h_8, -⟩ | ⟨h_9, h_10, -⟩
  · obtain rfl : r_6 = 0 := h_8
    refine lv_if_ne (tgt := 20) hx hb dX14_beside_13 (by decide) (fun c_ => absurd c_ (by decide)) (fun c_ => ?_)
    refine lv_ldc2 (v := (-9223372036854775808)) hx hb hown (hts _ (List.mem_cons_of_mem _ t_2834)) dX14_beside_16 ?_
    subst hQ
    exact W.lret (v := (-9223372036854775808)) hx hb hr (fun t ht hW => ⟨⟨_, _, rfl, trivial, q3_of g hK ht hW⟩, g.2.2.1.F ht⟩) g.2.2.1.2.2 dX14_beside_19
  · obtain rfl : r_6 = 1 := h_9
    have f_11 : (0 : Int32).toInt ≤ x1_.toInt := in_le h_10.1 (in_k (k := 0) (by decide) (by decide)) (in_v ey_1)
    have f_12 : x1_.toInt ≤ y_3.toInt := in_le h_10.2 (in_v ey_1) (in_v ey_5)
    have kb_0 : bd 0 0 (0 : Int32) := ⟨by decide, by decide⟩
    have b_13 : bd 0 2147483647 x1_ := leR f_11 kb_0 (bdT x1_) (by decide)
    have b_14 : bd 0 2 x1_ := leL f_12 b_13 b_4 (by decide)
    have b_15 : bd 0 2 y_3 := leR f_12 b_13 b_4 (by decide)
    have b_16 : bd 1 3 x_2 := sub_inv ty_3 b_15 bx_2 kb_1 (by decide)
    refine lv_if_ne (tgt := 20) hx hb dX14_beside_13 (by decide) (fun c_ => ?_) (fun c_ => absurd c_ (by decide))
    refine lv_aload_n hx hb dX14_beside_20 rfl (lv_at hl 0 rfl) ?_
    refine g_getr (K := 215) (C := RX14) (T := TX14) (N := 67) hx hb hts (mc_ inX14) hown hK g ma0_ ka0_ (by decide) rfl 27 (by decide) rfl (hts _ (List.mem_cons_of_mem _ t_2173)) (fun _ h9 => h9) rfl dX14_beside_21 (fun a_17 ma_17 ka_17 g => ?_)
    refine lv_iconst (v := 3) hx hb dX14_beside_24 (by decide) ?_
    refine lv_iload_n hx hb dX14_beside_25 rfl (lv_at hl 1 rfl) ?_
    have kb_3 : bd 3 3 (3 : Int32) := ⟨by decide, by decide⟩
    refine lv_iadd hx hb dX14_beside_26 ?_
    refine lv_topi (fun y_18 ey_18 => ?_)
    have ty_18 := add_bd ey_18 kb_3 b_14 (by decide)
    have b_19 : bd 3 5 y_18 := add_rg ty_18 kb_3 b_14 (by decide)
    refine g_iald hx hb hK g ma_17 ka_17 (by decide) rfl (in_bd b_19 (by decide)) dX14_beside_27 (fun x_20 bx_20 cx_20 => ?_)
    refine lv_istore_n (lv' := [(3, .int x_20), (0, .ref a0_), (1, .int x1_), (2, .int x2_)]) hx hb dX14_beside_28 rfl hl (by decide) rfl (fun ls hl => ?_)
    refine lv_iload_n hx hb dX14_beside_29 rfl (lv_at hl 0 rfl) ?_
    refine lv_iconst (v := (-1)) hx hb dX14_beside_30 (by decide) ?_
    have kb_m1 : bd (-1) (-1) ((-1) : Int32) := ⟨by decide, by decide⟩
    refine lv_icmp_eq (tgt := 72) hx hb dX14_beside_31 (by decide) (fun c_21 => ?_) (fun c_21 => ?_)
    · have fc_21 := eq_f c_21
      have b_22 : bd (-1) (-1) x_20 := eqX fc_21 bx_20 kb_m1 (by decide)
      refine lv_ldc2 (v := (-9223372036854775808)) hx hb hown (hts _ (List.mem_cons_of_mem _ t_2834)) dX14_beside_72 ?_
      subst hQ
      exact W.lret (v := (-9223372036854775808)) hx hb hr (fun t ht hW => ⟨⟨_, _, rfl, trivial, q3_of g hK ht hW⟩, g.2.2.1.F ht⟩) g.2.2.1.2.2 dX14_beside_75
    · have fc_21 := neq_f c_21
      have b_23 : bd 0 7 x_20 := neX fc_21 bx_20 kb_m1 (by decide)
      refine lv_iload_n hx hb dX14_beside_34 rfl (lv_at hl 3 rfl) ?_
      refine lv_i2l hx hb dX14_beside_35 rfl ?_
      refine lv_topl (fun y_24 ey_24 => ?_)
      refine lv_lconst (v := 0) hx hb dX14_beside_36 (by decide) ?_
      refine lv_aload_n hx hb dX14_beside_37 rfl (lv_at hl 1 rfl) ?_
      refine g_getr (K := 12) (C := RX14) (T := TX14) (N := 67) hx hb hts (mc_ inX14) hown hK g ma0_ ka0_ (by decide) rfl 1 (by decide) rfl (hts _ (List.mem_cons_of_mem _ t_2147)) (fun _ h9 => h9) rfl dX14_beside_38 (fun a_25 ma_25 ka_25 g => ?_)
      refine g_getr (K := 161) (C := RX12) (T := TX12) (N := 60) hx hb hts (mc_ inX12) hown hK g ma_25 ka_25 (by decide) rfl 5 (by decide) rfl (hts _ (List.mem_cons_of_mem _ t_1916)) (fun _ h9 => h9) rfl dX14_beside_41 (fun a_26 ma_26 ka_26 g => ?_)
      refine lv_iload_n hx hb dX14_beside_44 rfl (lv_at hl 0 rfl) ?_
      refine g_iald hx hb hK g ma_26 ka_26 (by decide) rfl (in_bd b_23 (by decide)) dX14_beside_45 (fun x_27 bx_27 cx_27 => ?_)
      refine lv_iconst (v := 1) hx hb dX14_beside_46 (by decide) ?_
      refine lv_isub hx hb dX14_beside_47 ?_
      refine lv_topi (fun y_28 ey_28 => ?_)
      have ty_28 := sub_bd ey_28 bx_27 kb_1 (by decide)
      have b_29 : bd (-1) 23 y_28 := sub_rg ty_28 bx_27 kb_1 (by decide)
      refine lv_i2l hx hb dX14_beside_48 rfl ?_
      refine lv_topl (fun y_30 ey_30 => ?_)
      refine g_calli (va_runS (As := [.long y_24, .long 0, .long y_30]) (rest := []) ⟨hx, hb, hml, hown, hts⟩ (r_X14_in l dC dI L kd tys fr_6 H.size g.2.2.2.1 y_24 0 y_30) (va_cwS 3 hts (gS_ t_2448 t_2449 t_198 t_2450) rfl rfl rfl (by decide +kernel) ⟨(Nat.le_of_ble_eq_true rfl), (Nat.le_of_ble_eq_true rfl)⟩) (pre3S g hK) rfl rfl hl.1 rfl (lv_room (Nat.le_of_ble_eq_true rfl)) dX14_beside_49 ⟨(Nat.le_of_ble_eq_true rfl), (Nat.le_of_ble_eq_true rfl)⟩) g hK (by decide) (by decide) (fx' := [(12, 5, a_25, .ref a_26), (14, 1, a0_, .ref a_25), (14, 27, a0_, .ref a_17), (14, 30, a0_, .int x_2)]) rfl (fun r_31 fr_31 H locs hp hMr_31 g => ?_)
      rcases hp with ⟨hx_32, h_33, -⟩ | ⟨h_34, h_35, -⟩
      · obtain rfl : r_31 = 0 := h_33
        refine lv_if_eq (tgt := 72) hx hb dX14_beside_52 (by decide) (fun c_ => ?_) (fun c_ => absurd (by decide) c_)
        refine lv_ldc2 (v := (-9223372036854775808)) hx hb hown (hts _ (List.mem_cons_of_mem _ t_2834)) dX14_beside_72 ?_
        subst hQ
        exact W.lret (v := (-9223372036854775808)) hx hb hr (fun t ht hW => ⟨⟨_, _, rfl, trivial, q3_of g hK ht hW⟩, g.2.2.1.F ht⟩) g.2.2.1.2.2 dX14_beside_75
      · obtain rfl : r_31 = 1 := h_34
        have f_36 : (0 : Int32).toInt ≤ x2_.toInt := in_le h_35.1 (in_k (k := 0) (by decide) (by decide)) (in_v ey_24)
        have f_37 : x2_.toInt ≤ y_28.toInt := in_le h_35.2 (in_v ey_24) (in_v ey_30)
        have b_38 : bd 0 2147483647 x2_ := leR f_36 kb_0 (bdT x2_) (by decide)
        have b_39 : bd 0 23 x2_ := leL f_37 b_38 b_29 (by decide)
        have b_40 : bd 0 23 y_28 := leR f_37 b_38 b_29 (by decide)
        have b_41 : bd 1 24 x_27 := sub_inv ty_28 b_40 bx_27 kb_1 (by decide)
        refine lv_if_eq (tgt := 72) hx hb dX14_beside_52 (by decide) (fun c_ => absurd c_ (by decide)) (fun c_ => ?_)
        refine lv_aload_n hx hb dX14_beside_55 rfl (lv_at hl 1 rfl) ?_
        refine g_getr (K := 216) (C := RX14) (T := TX14) (N := 67) hx hb hts (mc_ inX14) hown hK g ma0_ ka0_ (by decide) rfl 28 (by decide) rfl (hts _ (List.mem_cons_of_mem _ t_2174)) (fun _ h9 => h9) rfl dX14_beside_56 (fun a_42 ma_42 ka_42 g => ?_)
        refine lv_bipush (v := 24) hx hb dX14_beside_59 (by decide) ?_
        refine lv_iconst (v := 3) hx hb dX14_beside_61 (by decide) ?_
        refine lv_iload_n hx hb dX14_beside_62 rfl (lv_at hl 2 rfl) ?_
        refine lv_iadd hx hb dX14_beside_63 ?_
        refine lv_topi (fun y_43 ey_43 => ?_)
        obtain rfl : y_18 = y_43 := ey_18.trans ey_43.symm
        refine lv_imul hx hb dX14_beside_64 ?_
        refine lv_topi (fun y_44 ey_44 => ?_)
        have ty_44 := cmul_bd ey_44 (c := 24) (by decide) b_19 (by decide)
        have b_45 : bd 72 120 y_44 := mulc_rg ty_44 b_19 (by decide)
        refine lv_iload_n hx hb dX14_beside_65 rfl (lv_at hl 3 rfl) ?_
        refine lv_iadd hx hb dX14_beside_66 ?_
        refine lv_topi (fun y_46 ey_46 => ?_)
        have ty_46 := add_bd ey_46 b_45 b_39 (by decide)
        have b_47 : bd 72 143 y_46 := add_rg ty_46 b_45 b_39 (by decide)
        refine g_iald hx hb hK g ma_42 ka_42 (by decide) rfl (in_bd b_47 (by decide)) dX14_beside_67 (fun x_48 bx_48 cx_48 => ?_)
        refine lv_i2l hx hb dX14_beside_68 rfl ?_
        refine lv_topl (fun y_49 ey_49 => ?_)
        refine lv_goto (tgt := 75) hx hb dX14_beside_69 (by decide) ?_
        subst hQ
        exact W.lret (v := y_49) hx hb hr (fun t ht hW => ⟨⟨_, _, rfl, trivial, q3_of g hK ht hW⟩, g.2.2.1.F ht⟩) g.2.2.1.2.2 dX14_beside_75
set_option maxHeartbeats 4000000 in
set_option maxRecDepth 100000 in
theorem r_X14_count (l : Launch) (dC : Nat → ClassId) (dI : Nat → Nat → Nat) (L : List Nat) (kd : Nat → Nat) (tys : List (ClassId × FieldType)) (f0 : Nat → va_E) (sz : Nat) (hWT : WT L kd tys f0) (a0_ : Nat) (ma0_ : a0_ ∈ L) (ka0_ : kd a0_ = 14) (x1_ : Int32) : Met l yX14_count (.code yX14_count cX14_count 2 (some .int) :: lw_g) ({ frames := 0, cells := 0, slots := 0, locals := 0 }) (va_Pc [.ref a0_, .int x1_] (P3 (dC, dI) L tys f0 sz)) (va_Qi (fun (r : Int32) (f : Nat → va_E) => (True)) (Q3 (dC, dI) L kd tys [] [] f0 sz) (pA L sz)) 0 0 (pA L sz) := by
  refine Met.ofW (cc := cX14_count) (maxL := 2) (ret := (some .int)) (by decide) rfl ?_
  intro p e s m args below meth c s₁ B hml hv
  obtain ⟨rfl, hsz, hP, hK, hD0⟩ := hv
  have hx := B.exec
  have hb := B.bytes
  have hr := B.returns
  have hts := atoms_spec (ws := (.code yX14_count cX14_count 2 (some .int) :: lw_g)) B.pre
  have hown : s.vm.findClass RX14 = some m.cls := findClass_of_methodNamed B.named
  have hlocks := B.notSynchronized
  subst hsz
  have g : G3 (dC, dI) L kd tys s f0 [] [] f0 s.heap [] [] := G3.start hP hD0 hWT Fs.nil
  have hl := lv_entry ([.ref a0_, .int x1_]) (n := 2) (Nat.le_of_ble_eq_true rfl)
  rw [lg_entry_eq]
  generalize (lg_sl ([.ref a0_, .int x1_]) ++ List.replicate (2 - (lg_sl ([.ref a0_, .int x1_])).length) Slot.unset).toArray = ls at hl ⊢
  have hl : lv_has ls 2 [(0, .ref a0_), (1, .int x1_)] := hl
  refine W_q (fun Q hQ => ?_)
  refine lv_iload_n hx hb dX14_count_0 rfl (lv_at hl 1 rfl) ?_
  by_cases e_1 : x1_ = 0
  · refine lv_topi (fun z_2 ez_2 => ?_)
    obtain rfl : z_2 = 0 := ez_2.trans e_1
    have kb_0 : bd 0 0 (0 : Int32) := ⟨by decide, by decide⟩
    have b_3 : bd 0 0 x1_ := eqX (eq_f e_1) (bdT x1_) kb_0 (by decide)
    refine lv_tableIn (off := 31) (tgt := 32) hx hb dX14_count_1 (by decide) (by decide) rfl (by decide) ?_
    refine lv_aload_n hx hb dX14_count_32 rfl (lv_at hl 0 rfl) ?_
    refine g_getr (K := 12) (C := RX14) (T := TX14) (N := 67) hx hb hts (mc_ inX14) hown hK g ma0_ ka0_ (by decide) rfl 1 (by decide) rfl (hts _ (List.mem_cons_of_mem _ t_2147)) (fun _ h9 => h9) rfl dX14_count_33 (fun a_4 ma_4 ka_4 g => ?_)
    refine g_geti (C := RX12) (T := TX12) (N := 60) hx hb hts (mc_ inX12) hown hK g ma_4 ka_4 (by decide) rfl 0 (by decide) rfl (hts _ (List.mem_cons_of_mem _ t_1906)) (fun _ h9 => h9) rfl dX14_count_36 (fun x_5 bx_5 g => ?_)
    subst hQ
    exact W.iret (v := x_5) hx hb hr (fun t ht hW => ⟨⟨_, _, rfl, trivial, q3_of g hK ht hW⟩, g.2.2.1.F ht⟩) g.2.2.1.2.2 dX14_count_39
  by_cases e_6 : x1_ = 1
  · refine lv_topi (fun z_7 ez_7 => ?_)
    obtain rfl : z_7 = 1 := ez_7.trans e_6
    have kb_1 : bd 1 1 (1 : Int32) := ⟨by decide, by decide⟩
    have b_8 : bd 1 1 x1_ := eqX (eq_f e_6) (bdT x1_) kb_1 (by decide)
    refine lv_tableIn (off := 39) (tgt := 40) hx hb dX14_count_1 (by decide) (by decide) rfl (by decide) ?_
    refine lv_aload_n hx hb dX14_count_40 rfl (lv_at hl 0 rfl) ?_
    refine g_geti (C := RX14) (T := TX14) (N := 67) hx hb hts (mc_ inX14) hown hK g ma0_ ka0_ (by decide) rfl 4 (by decide) rfl (hts _ (List.mem_cons_of_mem _ t_2150)) (fun _ h9 => h9) rfl dX14_count_41 (fun x_9 bx_9 g => ?_)
    subst hQ
    exact W.iret (v := x_9) hx hb hr (fun t ht hW => ⟨⟨_, _, rfl, trivial, q3_of g hK ht hW⟩, g.2.2.1.F ht⟩) g.2.2.1.2.2 dX14_count_44
  by_cases e_10 : x1_ = 2
  · refine lv_topi (fun z_11 ez_11 => ?_)
    obtain rfl : z_11 = 2 := ez_11.trans e_10
    have kb_2 : bd 2 2 (2 : Int32) := ⟨by decide, by decide⟩
    have b_12 : bd 2 2 x1_ := eqX (eq_f e_10) (bdT x1_) kb_2 (by decide)
    refine lv_tableIn (off := 44) (tgt := 45) hx hb dX14_count_1 (by decide) (by decide) rfl (by decide) ?_
    refine lv_aload_n hx hb dX14_count_45 rfl (lv_at hl 0 rfl) ?_
    refine g_getr (K := 12) (C := RX14) (T := TX14) (N := 67) hx hb hts (mc_ inX14) hown hK g ma0_ ka0_ (by decide) rfl 1 (by decide) rfl (hts _ (List.mem_cons_of_mem _ t_2147)) (fun _ h9 => h9) rfl dX14_count_46 (fun a_13 ma_13 ka_13 g => ?_)
    refine g_geti (C := RX12) (T := TX12) (N := 60) hx hb hts (mc_ inX12) hown hK g ma_13 ka_13 (by decide) rfl 58 (by decide) rfl (hts _ (List.mem_cons_of_mem _ t_2018)) (fun _ h9 => h9) rfl dX14_count_49 (fun x_14 bx_14 g => ?_)
    subst hQ
    exact W.iret (v := x_14) hx hb hr (fun t ht hW => ⟨⟨_, _, rfl, trivial, q3_of g hK ht hW⟩, g.2.2.1.F ht⟩) g.2.2.1.2.2 dX14_count_52
  by_cases e_15 : x1_ = 3
  · refine lv_topi (fun z_16 ez_16 => ?_)
    obtain rfl : z_16 = 3 := ez_16.trans e_15
    have kb_3 : bd 3 3 (3 : Int32) := ⟨by decide, by decide⟩
    have b_17 : bd 3 3 x1_ := eqX (eq_f e_15) (bdT x1_) kb_3 (by decide)
    refine lv_tableIn (off := 52) (tgt := 53) hx hb dX14_count_1 (by decide) (by decide) rfl (by decide) ?_
    refine lv_aload_n hx hb dX14_count_53 rfl (lv_at hl 0 rfl) ?_
    refine g_geti (C := RX14) (T := TX14) (N := 67) hx hb hts (mc_ inX14) hown hK g ma0_ ka0_ (by decide) rfl 30 (by decide) rfl (hts _ (List.mem_cons_of_mem _ t_2176)) (fun _ h9 => h9) rfl dX14_count_54 (fun x_18 bx_18 g => ?_)
    subst hQ
    exact W.iret (v := x_18) hx hb hr (fun t ht hW => ⟨⟨_, _, rfl, trivial, q3_of g hK ht hW⟩, g.2.2.1.F ht⟩) g.2.2.1.2.2 dX14_count_57
  refine lv_tableOut (tgt := 58) hx hb dX14_count_1 (by have a0 : x1_.toInt ≠ 0 := fun h => e_1 (Int32.toInt_inj.mp (h.trans (by decide))); have a1 : x1_.toInt ≠ 1 := fun h => e_6 (Int32.toInt_inj.mp (h.trans (by decide))); have a2 : x1_.toInt ≠ 2 := fun h => e_10 (Int32.toInt_inj.mp (h.trans (by decide))); have a3 : x1_.toInt ≠ 3 := fun h => e_15 (Int32.toInt_inj.mp (h.trans (by decide))); omega) (by decide) ?_
  refine lv_iconst (v := (-1)) hx hb dX14_count_58 (by decide) ?_
  subst hQ
  exact W.iret (v := (-1)) hx hb hr (fun t ht hW => ⟨⟨_, _, rfl, trivial, q3_of g hK ht hW⟩, g.2.2.1.F ht⟩) g.2.2.1.2.2 dX14_count_59
