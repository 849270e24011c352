set_option maxHeartbeats 4000000 in
set_option maxRecDepth 100000 in
theorem r_X14_letters (l : Launch) (dC : Nat → ClassId) (dI : Nat → Nat → Nat) (L : List Nat) (kd : Nat → Nat) (tys : List (ClassId × FieldType)) (f0 : Nat → va_E) (sz : Nat) (hWT : WT L kd tys f0) (a0_ : Nat) (ma0_ : a0_ ∈ L) (ka0_ : kd a0_ = 14) (x1_ : Int32) (bx1_ : bd 0 8000 x1_) (x2_ : Int32) (bx2_ : bd 0 8000 x2_) : Met l yX14_letters (.code yX14_letters cX14_letters 6 (some .long) :: lw_g) ({ frames := 1, cells := 0, slots := 0, locals := 21 }) (va_Pc [.ref a0_, .int x1_, .int x2_] (P3 (dC, dI) L tys f0 sz)) (va_Ql (fun (r : Int64) (f : Nat → va_E) => (True)) (Q3 (dC, dI) L kd tys [] [] f0 sz) (pA L sz)) 0 0 (pA L sz) := by
  refine Met.ofW (cc := cX14_letters) (maxL := 6) (ret := (some .long)) (by decide) rfl ?_
  intro p e s m args below meth c s₁ B hml hv
  obtain ⟨rfl, hsz, hP, hK, hD0⟩ := hv
  have hx := B.exec
  have hb := B.bytes
  have hr := B.returns
  have hts := atoms_spec (ws := (.code yX14_letters cX14_letters 6 (some .long) :: lw_g)) B.pre
  have hown : s.vm.findClass RX14 = some m.cls := findClass_of_methodNamed B.named
  have hlocks := B.notSynchronized
  subst hsz
  have g : G3 (dC, dI) L kd tys s f0 [] [] f0 s.heap [] [] := G3.start hP hD0 hWT Fs.nil
  have hl := lv_entry ([.ref a0_, .int x1_, .int x2_]) (n := 6) (Nat.le_of_ble_eq_true rfl)
  rw [lg_entry_eq]
  generalize (lg_sl ([.ref a0_, .int x1_, .int x2_]) ++ List.replicate (6 - (lg_sl ([.ref a0_, .int x1_, .int x2_])).length) Slot.unset).toArray = ls at hl ⊢
  have hl : lv_has ls 6 [(0, .ref a0_), (1, .int x1_), (2, .int x2_)] := hl
  refine W_q (fun Q hQ => ?_)
  refine lv_lconst (v := 0) hx hb dX14_letters_0 (by decide) ?_
  refine lv_lstore_n (lv' := [(3, .long 0), (0, .ref a0_), (1, .int x1_), (2, .int x2_)]) hx hb dX14_letters_1 rfl hl (by decide) rfl (fun ls hl => ?_)
  refine lv_iload_n hx hb dX14_letters_2 rfl (lv_at hl 2 rfl) ?_
  refine lv_istore (lv' := [(5, .int x1_), (3, .long 0), (0, .ref a0_), (1, .int x1_), (2, .int x2_)]) hx hb dX14_letters_3 hl (by decide) rfl (fun ls hl => ?_)
  have loop_1 : ∀ (n : Nat) (v5_5 : Int32) (v5_3 : Int64), bd 0 8000 v5_5 → (8000 - v5_5.toInt < (n : Int)) → ∀ (f : Nat → va_E) (H : Heap) (locs : List Loc) (ls : Array Slot), G3 (dC, dI) L kd tys s f0 [] [] f H locs [] → lv_has ls 6 [(5, .int v5_5), (3, .long v5_3), (0, .ref a0_), (1, .int x1_), (2, .int x2_)] → W p l e ({ frames := 1, cells := 0, slots := 0, locals := 21 } : Room) s m [.ref a0_, .int x1_, .int x2_].toArray below meth c H locs 0 0 Q (F0 m 5 ls []) := by
    intro n5
    induction n5 with
    | zero =>
      intro v5_5 v5_3 bv5_5  hm5 f H locs ls g  hl
      exact absurd hm5 (by have h9_v5_5 := bv5_5; unfold bd at h9_v5_5; omega)
    | succ n5 ih5 =>
      intro v5_5 v5_3 bv5_5  hm5 f H locs ls g  hl
      refine lv_iload hx hb dX14_letters_5 (lv_at hl 0 rfl) ?_
      refine lv_iload_n hx hb dX14_letters_7 rfl (lv_at hl 4 rfl) ?_
      refine lv_icmp_ge (tgt := 30) hx hb dX14_letters_8 (by decide) (fun c_2 => ?_) (fun c_2 => ?_)
      · have fc_2 := le_f c_2
        refine lv_lload_n hx hb dX14_letters_30 rfl (lv_at hl 1 rfl) ?_
        subst hQ
        exact W.lret (v := v5_3) hx hb hr (fun t ht hW => ⟨⟨_, _, rfl, trivial, q3_of g hK ht hW⟩, g.2.2.1.F ht⟩) g.2.2.1.2.2 dX14_letters_31
      · have fc_2 := nle_f c_2
        have b_3 : bd 0 7999 v5_5 := ltL fc_2 bv5_5 bx2_ (by decide)
        have b_4 : bd 1 8000 x2_ := ltR fc_2 bv5_5 bx2_ (by decide)
        refine lv_lload_n hx hb dX14_letters_11 rfl (lv_at hl 1 rfl) ?_
        refine lv_bipush (v := 8) hx hb dX14_letters_12 (by decide) ?_
        refine lv_lshl hx hb dX14_letters_14 rfl ?_
        refine lv_topl (fun y_5 ey_5 => ?_)
        refine lv_aload_n hx hb dX14_letters_15 rfl (lv_at hl 2 rfl) ?_
        refine lv_iload hx hb dX14_letters_16 (lv_at hl 0 rfl) ?_
        refine g_calli (va_runV (As := [.int v5_5]) (rest := [.long y_5]) ⟨hx, hb, hml, hown, hts⟩ (r_X14_see l dC dI L kd tys f H.size g.2.2.2.1 a0_ ma0_ ka0_ v5_5 (bd_sub b_3 (by decide))) (cwV 1 hts (gV_ t_2364 t_2366 t_93 t_198 t_2367) rfl rfl rfl (by decide +kernel) ⟨(Nat.le_of_ble_eq_true rfl), (Nat.le_of_ble_eq_true rfl)⟩) (pre3V g hK ma0_ ka0_ (by decide) (q := (RX14, TX14, 67)) rfl) rfl rfl hl.1 rfl (lv_room (Nat.le_of_ble_eq_true rfl)) dX14_letters_18 ⟨(Nat.le_of_ble_eq_true rfl), (Nat.le_of_ble_eq_true rfl)⟩) g hK (by decide) (by decide) (fx' := []) rfl (fun r_6 fr_6 H locs hp hMr_6 g => ?_)
        rcases hp with ⟨h_7, -⟩ | ⟨h_8, h_9, x_10, h_11, hF_12⟩
        · obtain rfl : r_6 = (-1) := h_7
          refine lv_i2l hx hb dX14_letters_21 rfl ?_
          refine lv_topl (fun y_13 ey_13 => ?_)
          obtain rfl : y_13 = (-1) := ey_13.trans (by decide)
          refine lv_lor hx hb dX14_letters_22 ?_
          refine lv_topl (fun y_14 ey_14 => ?_)
          refine lv_lstore_n (lv' := [(3, .long y_14), (5, .int v5_5), (0, .ref a0_), (1, .int x1_), (2, .int x2_)]) hx hb dX14_letters_23 rfl hl (by decide) rfl (fun ls hl => ?_)
          have kb_1 : bd 1 1 (1 : Int32) := ⟨by decide, by decide⟩
          obtain ⟨y_15, ey_15⟩ : ∃ z : Int32, z = v5_5 + 1 := ⟨_, rfl⟩
          refine lv_iinc (v := y_15) (lv' := [(5, .int y_15), (3, .long y_14), (0, .ref a0_), (1, .int x1_), (2, .int x2_)]) hx hb dX14_letters_24 hl (k := 1) rfl (by rw [ey_15]; rfl) (by decide) rfl (fun ls hl => ?_)
          have ty_15 := add_bd ey_15 b_3 kb_1 (by decide)
          have b_16 : bd 1 8000 y_15 := add_rg ty_15 b_3 kb_1 (by decide)
          refine lv_goto (tgt := 5) hx hb dX14_letters_27 (by decide) ?_
          have hl9 := lv_sub hl [0, 1, 2, 3, 4] (by rfl : lv_pick [(5, .int y_15), (3, .long y_14), (0, .ref a0_), (1, .int x1_), (2, .int x2_)] [0, 1, 2, 3, 4] = [(5, .int y_15), (3, .long y_14), (0, .ref a0_), (1, .int x1_), (2, .int x2_)])
          have g9 := g.sub (fx' := []) [] rfl
          exact ih5  y_15 y_14 (bd_sub b_16 (by decide)) (by have h9_0 := b_16; unfold bd at h9_0; have h9_1 := bv5_5; unfold bd at h9_1; have h9_2 := kb_1; unfold bd at h9_2; omega) _ _ _ _ g9  hl9
        · have b_17 : bd 0 3999 v5_5 := eqX rfl b_3 h_9 (by decide)
          have g := g.more hF_12
          refine lv_i2l hx hb dX14_letters_21 rfl ?_
          refine lv_topl (fun y_18 ey_18 => ?_)
          refine lv_lor hx hb dX14_letters_22 ?_
          refine lv_topl (fun y_19 ey_19 => ?_)
          refine lv_lstore_n (lv' := [(3, .long y_19), (5, .int v5_5), (0, .ref a0_), (1, .int x1_), (2, .int x2_)]) hx hb dX14_letters_23 rfl hl (by decide) rfl (fun ls hl => ?_)
          have kb_1 : bd 1 1 (1 : Int32) := ⟨by decide, by decide⟩
          obtain ⟨y_20, ey_20⟩ : ∃ z : Int32, z = v5_5 + 1 := ⟨_, rfl⟩
          refine lv_iinc (v := y_20) (lv' := [(5, .int y_20), (3, .long y_19), (0, .ref a0_), (1, .int x1_), (2, .int x2_)]) hx hb dX14_letters_24 hl (k := 1) rfl (by rw [ey_20]; rfl) (by decide) rfl (fun ls hl => ?_)
          have ty_20 := add_bd ey_20 b_17 kb_1 (by decide)
          have b_21 : bd 1 4000 y_20 := add_rg ty_20 b_17 kb_1 (by decide)
          refine lv_goto (tgt := 5) hx hb dX14_letters_27 (by decide) ?_
          have hl9 := lv_sub hl [0, 1, 2, 3, 4] (by rfl : lv_pick [(5, .int y_20), (3, .long y_19), (0, .ref a0_), (1, .int x1_), (2, .int x2_)] [0, 1, 2, 3, 4] = [(5, .int y_20), (3, .long y_19), (0, .ref a0_), (1, .int x1_), (2, .int x2_)])
          have g9 := g.sub (fx' := []) [] rfl
          exact ih5  y_20 y_19 (bd_sub b_21 (by decide)) (by have h9_0 := b_21; unfold bd at h9_0; have h9_1 := bv5_5; unfold bd at h9_1; have h9_2 := kb_1; unfold bd at h9_2; omega) _ _ _ _ g9  hl9
  have hl9 := lv_sub hl [0, 1, 2, 3, 4] (by rfl : lv_pick [(5, .int x1_), (3, .long 0), (0, .ref a0_), (1, .int x1_), (2, .int x2_)] [0, 1, 2, 3, 4] = [(5, .int x1_), (3, .long 0), (0, .ref a0_), (1, .int x1_), (2, .int x2_)])
  have g9 := g.sub (fx' := []) [] rfl
  exact loop_1 (16003) x1_ 0 bx1_ (by have h9_0 := bx1_; unfold bd at h9_0; omega) _ _ _ _ g9  hl9
