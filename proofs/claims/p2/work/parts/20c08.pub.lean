set_option maxHeartbeats 4000000 in
set_option maxRecDepth 100000 in
theorem r_X10_fieldsThatMayChange (l : Launch) (dC : Nat → ClassId) (dI : Nat → Nat → Nat) (L : List Nat) (kd : Nat → Nat) (tys : List (ClassId × FieldType)) (f0 : Nat → va_E) (sz : Nat) (hWT : WT L kd tys f0) (a0_ : Nat) (ma0_ : a0_ ∈ L) (ka0_ : kd a0_ = 10) (x1_ : Int32) (bx1_ : bd 0 95 x1_) : Met l yX10_fieldsThatMayChange (.code yX10_fieldsThatMayChange cX10_fieldsThatMayChange 7 (some .int) :: lw_g) ({ frames := 2, cells := 0, slots := 0, locals := 34 }) (va_Pc [.ref a0_, .int x1_] (P3 (dC, dI) L tys f0 sz)) (va_Qi (fun (r : Int32) (f : Nat → va_E) => (True)) (Q3 (dC, dI) L kd tys [] [] f0 sz) (pA L sz)) 0 0 (pA L sz) := by
  refine Met.ofW (cc := cX10_fieldsThatMayChange) (maxL := 7) (ret := (some .int)) (by decide) rfl ?_
  intro p e s m args below meth c s₁ B hml hv
  obtain ⟨rfl, hsz, hP, hK, hD0⟩ := hv
  have hx := B.exec
  have hb := B.bytes
  have hr := B.returns
  have hts := atoms_spec (ws := (.code yX10_fieldsThatMayChange cX10_fieldsThatMayChange 7 (some .int) :: lw_g)) B.pre
  have hown : s.vm.findClass RX10 = some m.cls := findClass_of_methodNamed B.named
  have hlocks := B.notSynchronized
  subst hsz
  have g : G3 (dC, dI) L kd tys s f0 [] [] f0 s.heap [] [] := G3.start hP hD0 hWT Fs.nil
  have hl := lv_entry ([.ref a0_, .int x1_]) (n := 7) (Nat.le_of_ble_eq_true rfl)
  rw [lg_entry_eq]
  generalize (lg_sl ([.ref a0_, .int x1_]) ++ List.replicate (7 - (lg_sl ([.ref a0_, .int x1_])).length) Slot.unset).toArray = ls at hl ⊢
  have hl : lv_has ls 7 [(0, .ref a0_), (1, .int x1_)] := hl
  refine W_q (fun Q hQ => ?_)
  refine lv_iconst (v := (-1)) hx hb dX10_fieldsThatMayChange_0 (by decide) ?_
  refine lv_istore_n (lv' := [(2, .int (-1)), (0, .ref a0_), (1, .int x1_)]) hx hb dX10_fieldsThatMayChange_1 rfl hl (by decide) rfl (fun ls hl => ?_)
  refine lv_iload_n hx hb dX10_fieldsThatMayChange_2 rfl (lv_at hl 2 rfl) ?_
  refine lv_istore_n (lv' := [(3, .int x1_), (2, .int (-1)), (0, .ref a0_), (1, .int x1_)]) hx hb dX10_fieldsThatMayChange_3 rfl hl (by decide) rfl (fun ls hl => ?_)
  refine lv_iconst (v := 0) hx hb dX10_fieldsThatMayChange_4 (by decide) ?_
  refine lv_istore (lv' := [(4, .int 0), (3, .int x1_), (2, .int (-1)), (0, .ref a0_), (1, .int x1_)]) hx hb dX10_fieldsThatMayChange_5 hl (by decide) rfl (fun ls hl => ?_)
  have loop_1 : ∀ (n : Nat) (v7_4 : Int32) (v7_3 : Int32) (v7_2 : Int32), bd 0 8 v7_4 → bd (-1) 95 v7_3 → (8 - v7_4.toInt < (n : Int)) → ∀ (f : Nat → va_E) (H : Heap) (locs : List Loc) (ls : Array Slot), G3 (dC, dI) L kd tys s f0 [] [] f H locs [] → lv_has ls 7 [(4, .int v7_4), (3, .int v7_3), (2, .int v7_2), (0, .ref a0_), (1, .int x1_)] → W p l e ({ frames := 2, cells := 0, slots := 0, locals := 34 } : Room) s m [.ref a0_, .int x1_].toArray below meth c H locs 0 0 Q (F0 m 7 ls []) := by
    intro n7
    induction n7 with
    | zero =>
      intro v7_4 v7_3 v7_2 bv7_4 bv7_3  hm7 f H locs ls g  hl
      exact absurd hm7 (by have h9_v7_4 := bv7_4; unfold bd at h9_v7_4; have h9_v7_3 := bv7_3; unfold bd at h9_v7_3; have h9_v7_2 := bdT v7_2; unfold bd at h9_v7_2; omega)
    | succ n7 ih7 =>
      intro v7_4 v7_3 v7_2 bv7_4 bv7_3  hm7 f H locs ls g  hl
      refine lv_iload hx hb dX10_fieldsThatMayChange_7 (lv_at hl 0 rfl) ?_
      refine lv_bipush (v := 8) hx hb dX10_fieldsThatMayChange_9 (by decide) ?_
      have kb_8 : bd 8 8 (8 : Int32) := ⟨by decide, by decide⟩
      refine lv_icmp_ge (tgt := 96) hx hb dX10_fieldsThatMayChange_11 (by decide) (fun c_2 => ?_) (fun c_2 => ?_)
      · have fc_2 := le_f c_2
        have b_3 : bd 8 8 v7_4 := leR fc_2 kb_8 bv7_4 (by decide)
        refine lv_iload_n hx hb dX10_fieldsThatMayChange_96 rfl (lv_at hl 2 rfl) ?_
        subst hQ
        exact W.iret (v := v7_2) hx hb hr (fun t ht hW => ⟨⟨_, _, rfl, trivial, q3_of g hK ht hW⟩, g.2.2.1.F ht⟩) g.2.2.1.2.2 dX10_fieldsThatMayChange_97
      · have fc_2 := nle_f c_2
        have b_4 : bd 0 7 v7_4 := ltL fc_2 bv7_4 kb_8 (by decide)
        refine lv_iload_n hx hb dX10_fieldsThatMayChange_14 rfl (lv_at hl 1 rfl) ?_
        refine lv_iconst (v := (-1)) hx hb dX10_fieldsThatMayChange_15 (by decide) ?_
        have kb_m1 : bd (-1) (-1) ((-1) : Int32) := ⟨by decide, by decide⟩
        refine lv_icmp_eq (tgt := 96) hx hb dX10_fieldsThatMayChange_16 (by decide) (fun c_5 => ?_) (fun c_5 => ?_)
        · have fc_5 := eq_f c_5
          have b_6 : bd (-1) (-1) v7_3 := eqX fc_5 bv7_3 kb_m1 (by decide)
          refine lv_iload_n hx hb dX10_fieldsThatMayChange_96 rfl (lv_at hl 2 rfl) ?_
          subst hQ
          exact W.iret (v := v7_2) hx hb hr (fun t ht hW => ⟨⟨_, _, rfl, trivial, q3_of g hK ht hW⟩, g.2.2.1.F ht⟩) g.2.2.1.2.2 dX10_fieldsThatMayChange_97
        · have fc_5 := neq_f c_5
          have b_7 : bd 0 95 v7_3 := neX fc_5 bv7_3 kb_m1 (by decide)
          refine lv_aload_n hx hb dX10_fieldsThatMayChange_19 rfl (lv_at hl 3 rfl) ?_
          refine lv_iload_n hx hb dX10_fieldsThatMayChange_20 rfl (lv_at hl 1 rfl) ?_
          refine g_calli (va_runV (As := [.int v7_3]) (rest := []) ⟨hx, hb, hml, hown, hts⟩ (r_X10_lastMark l dC dI L kd tys f H.size g.2.2.2.1 a0_ ma0_ ka0_ v7_3 b_7) (cwV 1 hts (gV_ t_1620 t_1622 t_71 t_194 t_1623) rfl rfl rfl (by decide +kernel) ⟨(Nat.le_of_ble_eq_true rfl), (Nat.le_of_ble_eq_true rfl)⟩) (pre3V g hK ma0_ ka0_ (by decide) (q := (RX10, TX10, 10)) rfl) rfl rfl hl.1 rfl (lv_room (Nat.le_of_ble_eq_true rfl)) dX10_fieldsThatMayChange_21 ⟨(Nat.le_of_ble_eq_true rfl), (Nat.le_of_ble_eq_true rfl)⟩) g hK (by decide) (by decide) (fx' := []) rfl (fun r_8 fr_8 H locs hp hMr_8 g => ?_)
          obtain ⟨h_9, -⟩ := hp
          refine lv_istore (lv' := [(5, .int r_8), (4, .int v7_4), (3, .int v7_3), (2, .int v7_2), (0, .ref a0_), (1, .int x1_)]) hx hb dX10_fieldsThatMayChange_24 hl (by decide) rfl (fun ls hl => ?_)
          refine lv_aload_n hx hb dX10_fieldsThatMayChange_26 rfl (lv_at hl 4 rfl) ?_
          refine g_getr (K := 7) (C := RX10) (T := TX10) (N := 10) hx hb hts (mc_ inX10) hown hK g ma0_ ka0_ (by decide) rfl 0 (by decide) rfl (hts _ (List.mem_cons_of_mem _ t_912)) (fun _ h9 => h9) rfl dX10_fieldsThatMayChange_27 (fun a_10 ma_10 ka_10 g => ?_)
          refine g_getr (K := 137) (C := RX7) (T := TX7) (N := 19) hx hb hts (mc_ inX7) hown hK g ma_10 ka_10 (by decide) rfl 2 (by decide) rfl (hts _ (List.mem_cons_of_mem _ t_634)) (fun _ h9 => h9) rfl dX10_fieldsThatMayChange_30 (fun a_11 ma_11 ka_11 g => ?_)
          refine lv_iload_n hx hb dX10_fieldsThatMayChange_33 rfl (lv_at hl 2 rfl) ?_
          refine g_aald hx hb hK g ma_11 ka_11 (by decide) rfl (by decide) (in_bd b_7 (by decide)) dX10_fieldsThatMayChange_34 (fun a_12 ma_12 ua_12 wa_12 => ?_)
          have ka_12 : kd a_12 = 6 := by omega
          refine g_geti (C := RX6) (T := TX6) (N := 13) hx hb hts (mc_ inX6) hown hK g ma_12 ka_12 (by decide) rfl 11 (by decide) rfl (hts _ (List.mem_cons_of_mem _ t_590)) (fun _ h9 => h9) rfl dX10_fieldsThatMayChange_35 (fun x_13 bx_13 g => ?_)
          refine lv_istore (lv' := [(6, .int x_13), (5, .int r_8), (4, .int v7_4), (3, .int v7_3), (2, .int v7_2), (0, .ref a0_), (1, .int x1_)]) hx hb dX10_fieldsThatMayChange_38 hl (by decide) rfl (fun ls hl => ?_)
          have loop_14 : ∀ (n : Nat) (v40_6 : Int32) (v40_2 : Int32), bd 0 500 v40_6 → (500 - v40_6.toInt < (n : Int)) → ∀ (f : Nat → va_E) (H : Heap) (locs : List Loc) (ls : Array Slot), G3 (dC, dI) L kd tys s f0 [] [] f H locs [(6, 11, a_12, .int x_13), (7, 2, a_10, .ref a_11), (10, 0, a0_, .ref a_10)] → lv_has ls 7 [(6, .int v40_6), (5, .int r_8), (4, .int v7_4), (3, .int v7_3), (2, .int v40_2), (0, .ref a0_), (1, .int x1_)] → W p l e ({ frames := 2, cells := 0, slots := 0, locals := 34 } : Room) s m [.ref a0_, .int x1_].toArray below meth c H locs 0 0 Q (F0 m 40 ls []) := by
            intro n40
            induction n40 with
            | zero =>
              intro v40_6 v40_2 bv40_6  hm40 f H locs ls g  hl
              exact absurd hm40 (by have h9_v40_6 := bv40_6; unfold bd at h9_v40_6; have h9_v40_2 := bdT v40_2; unfold bd at h9_v40_2; omega)
            | succ n40 ih40 =>
              intro v40_6 v40_2 bv40_6  hm40 f H locs ls g  hl
              refine lv_iload hx hb dX10_fieldsThatMayChange_40 (lv_at hl 0 rfl) ?_
              refine lv_iload hx hb dX10_fieldsThatMayChange_42 (lv_at hl 1 rfl) ?_
              refine lv_icmp_gt (tgt := 84) hx hb dX10_fieldsThatMayChange_44 (by decide) (fun c_15 => ?_) (fun c_15 => ?_)
              · have fc_15 := lt_f c_15
                refine lv_aload_n hx hb dX10_fieldsThatMayChange_84 rfl (lv_at hl 5 rfl) ?_
                refine lv_iload_n hx hb dX10_fieldsThatMayChange_85 rfl (lv_at hl 3 rfl) ?_
                refine g_calli (va_runV (As := [.int v7_3]) (rest := []) ⟨hx, hb, hml, hown, hts⟩ (r_X10_upwards l dC dI L kd tys f H.size g.2.2.2.1 a0_ ma0_ ka0_ v7_3) (cwV 1 hts (gV_ t_1625 t_1627 t_72 t_194 t_1628) rfl rfl rfl (by decide +kernel) ⟨(Nat.le_of_ble_eq_true rfl), (Nat.le_of_ble_eq_true rfl)⟩) (pre3V g hK ma0_ ka0_ (by decide) (q := (RX10, TX10, 10)) rfl) rfl rfl hl.1 rfl (lv_room (Nat.le_of_ble_eq_true rfl)) dX10_fieldsThatMayChange_86 ⟨(Nat.le_of_ble_eq_true rfl), (Nat.le_of_ble_eq_true rfl)⟩) g hK (by decide) (by decide) (fx' := [(6, 11, a_12, .int x_13), (7, 2, a_10, .ref a_11), (10, 0, a0_, .ref a_10)]) rfl (fun r_16 fr_16 H locs hp hMr_16 g => ?_)
                obtain ⟨h_17, -⟩ := hp
                refine lv_istore_n (lv' := [(3, .int r_16), (6, .int v40_6), (5, .int r_8), (4, .int v7_4), (2, .int v40_2), (0, .ref a0_), (1, .int x1_)]) hx hb dX10_fieldsThatMayChange_89 rfl hl (by decide) rfl (fun ls hl => ?_)
                have kb_1 : bd 1 1 (1 : Int32) := ⟨by decide, by decide⟩
                obtain ⟨y_18, ey_18⟩ : ∃ z : Int32, z = v7_4 + 1 := ⟨_, rfl⟩
                refine lv_iinc (v := y_18) (lv' := [(4, .int y_18), (3, .int r_16), (6, .int v40_6), (5, .int r_8), (2, .int v40_2), (0, .ref a0_), (1, .int x1_)]) hx hb dX10_fieldsThatMayChange_90 hl (k := 3) rfl (by rw [ey_18]; rfl) (by decide) rfl (fun ls hl => ?_)
                have ty_18 := add_bd ey_18 b_4 kb_1 (by decide)
                have b_19 : bd 1 8 y_18 := add_rg ty_18 b_4 kb_1 (by decide)
                refine lv_goto (tgt := 7) hx hb dX10_fieldsThatMayChange_93 (by decide) ?_
                have hl9 := lv_sub hl [0, 1, 4, 5, 6] (by rfl : lv_pick [(4, .int y_18), (3, .int r_16), (6, .int v40_6), (5, .int r_8), (2, .int v40_2), (0, .ref a0_), (1, .int x1_)] [0, 1, 4, 5, 6] = [(4, .int y_18), (3, .int r_16), (2, .int v40_2), (0, .ref a0_), (1, .int x1_)])
                have g9 := g.sub (fx' := []) [] rfl
                exact ih7  y_18 r_16 v40_2 (bd_sub b_19 (by decide)) h_17 (by have h9_0 := b_19; unfold bd at h9_0; have h9_1 := bdT v40_2; unfold bd at h9_1; have h9_2 := bdT v7_2; unfold bd at h9_2; have h9_3 := bv7_3; unfold bd at h9_3; have h9_4 := bv7_4; unfold bd at h9_4; have h9_5 := h_17; unfold bd at h9_5; have h9_6 := kb_1; unfold bd at h9_6; have h9_7 := kb_8; unfold bd at h9_7; have h9_8 := kb_m1; unfold bd at h9_8; omega) _ _ _ _ g9  hl9
              · have fc_15 := nlt_f c_15
                have b_20 : bd 0 499 v40_6 := leL fc_15 bv40_6 h_9 (by decide)
                have b_21 : bd 0 499 r_8 := leR fc_15 bv40_6 h_9 (by decide)
                refine lv_iload_n hx hb dX10_fieldsThatMayChange_47 rfl (lv_at hl 4 rfl) ?_
                refine lv_aload_n hx hb dX10_fieldsThatMayChange_48 rfl (lv_at hl 5 rfl) ?_
                refine g_getk (C := RX10) (T := TX10) (N := 10) hx hb hts (mc_ inX10) hown hK g rfl 0 (by decide) rfl (hts _ (List.mem_cons_of_mem _ t_912)) (fun _ h9 => h9) 2 rfl dX10_fieldsThatMayChange_49 ?_
                refine g_getr (K := 140) (C := RX7) (T := TX7) (N := 19) hx hb hts (mc_ inX7) hown hK g ma_10 ka_10 (by decide) rfl 7 (by decide) rfl (hts _ (List.mem_cons_of_mem _ t_650)) (fun _ h9 => h9) rfl dX10_fieldsThatMayChange_52 (fun a_22 ma_22 ka_22 g => ?_)
                refine lv_iload hx hb dX10_fieldsThatMayChange_55 (lv_at hl 0 rfl) ?_
                refine g_iald hx hb hK g ma_22 ka_22 (by decide) rfl (in_bd b_20 (by decide)) dX10_fieldsThatMayChange_57 (fun x_23 bx_23 cx_23 => ?_)
                refine lv_iconst (v := 5) hx hb dX10_fieldsThatMayChange_58 (by decide) ?_
                have kb_5 : bd 5 5 (5 : Int32) := ⟨by decide, by decide⟩
                refine lv_icmp_ne (tgt := 75) hx hb dX10_fieldsThatMayChange_59 (by decide) (fun c_24 => ?_) (fun c_24 => ?_)
                · have fc_24 := neq_f c_24
                  refine lv_iconst (v := (-1)) hx hb dX10_fieldsThatMayChange_75 (by decide) ?_
                  refine lv_iand hx hb dX10_fieldsThatMayChange_76 ?_
                  refine lv_topi (fun y_25 ey_25 => ?_)
                  refine lv_istore_n (lv' := [(2, .int y_25), (6, .int v40_6), (5, .int r_8), (4, .int v7_4), (3, .int v7_3), (0, .ref a0_), (1, .int x1_)]) hx hb dX10_fieldsThatMayChange_77 rfl hl (by decide) rfl (fun ls hl => ?_)
                  have kb_1 : bd 1 1 (1 : Int32) := ⟨by decide, by decide⟩
                  obtain ⟨y_26, ey_26⟩ : ∃ z : Int32, z = v40_6 + 1 := ⟨_, rfl⟩
                  refine lv_iinc (v := y_26) (lv' := [(6, .int y_26), (2, .int y_25), (5, .int r_8), (4, .int v7_4), (3, .int v7_3), (0, .ref a0_), (1, .int x1_)]) hx hb dX10_fieldsThatMayChange_78 hl (k := 1) rfl (by rw [ey_26]; rfl) (by decide) rfl (fun ls hl => ?_)
                  have ty_26 := add_bd ey_26 b_20 kb_1 (by decide)
                  have b_27 : bd 1 500 y_26 := add_rg ty_26 b_20 kb_1 (by decide)
                  refine lv_goto (tgt := 40) hx hb dX10_fieldsThatMayChange_81 (by decide) ?_
                  have hl9 := lv_sub hl [0, 2, 3, 4, 1, 5, 6] (by rfl : lv_pick [(6, .int y_26), (2, .int y_25), (5, .int r_8), (4, .int v7_4), (3, .int v7_3), (0, .ref a0_), (1, .int x1_)] [0, 2, 3, 4, 1, 5, 6] = [(6, .int y_26), (5, .int r_8), (4, .int v7_4), (3, .int v7_3), (2, .int y_25), (0, .ref a0_), (1, .int x1_)])
                  have g9 := g.sub (fx' := [(6, 11, a_12, .int x_13), (7, 2, a_10, .ref a_11), (10, 0, a0_, .ref a_10)]) [1, 2, 3] rfl
                  exact ih40  y_26 y_25 (bd_sub b_27 (by decide)) (by have h9_0 := b_27; unfold bd at h9_0; have h9_1 := bdT v40_2; unfold bd at h9_1; have h9_2 := bdT y_25; unfold bd at h9_2; have h9_3 := bv40_6; unfold bd at h9_3; have h9_4 := kb_1; unfold bd at h9_4; have h9_5 := kb_5; unfold bd at h9_5; have h9_6 := kb_8; unfold bd at h9_6; have h9_7 := kb_m1; unfold bd at h9_7; omega) _ _ _ _ g9  hl9
                · have fc_24 := eq_f c_24
                  have b_28 : bd 5 5 x_23 := eqX fc_24 (bdT x_23) kb_5 (by decide)
                  refine lv_aload_n hx hb dX10_fieldsThatMayChange_62 rfl (lv_at hl 5 rfl) ?_
                  refine g_getk (C := RX10) (T := TX10) (N := 10) hx hb hts (mc_ inX10) hown hK g rfl 0 (by decide) rfl (hts _ (List.mem_cons_of_mem _ t_912)) (fun _ h9 => h9) 3 rfl dX10_fieldsThatMayChange_63 ?_
                  refine g_getr (K := 143) (C := RX7) (T := TX7) (N := 19) hx hb hts (mc_ inX7) hown hK g ma_10 ka_10 (by decide) rfl 10 (by decide) rfl (hts _ (List.mem_cons_of_mem _ t_660)) (fun _ h9 => h9) rfl dX10_fieldsThatMayChange_66 (fun a_29 ma_29 ka_29 g => ?_)
                  refine lv_iload hx hb dX10_fieldsThatMayChange_69 (lv_at hl 0 rfl) ?_
                  refine g_iald hx hb hK g ma_29 ka_29 (by decide) rfl (in_bd b_20 (by decide)) dX10_fieldsThatMayChange_71 (fun x_30 bx_30 cx_30 => ?_)
                  refine lv_goto (tgt := 76) hx hb dX10_fieldsThatMayChange_72 (by decide) ?_
                  refine lv_iand hx hb dX10_fieldsThatMayChange_76 ?_
                  refine lv_topi (fun y_31 ey_31 => ?_)
                  refine lv_istore_n (lv' := [(2, .int y_31), (6, .int v40_6), (5, .int r_8), (4, .int v7_4), (3, .int v7_3), (0, .ref a0_), (1, .int x1_)]) hx hb dX10_fieldsThatMayChange_77 rfl hl (by decide) rfl (fun ls hl => ?_)
                  have kb_1 : bd 1 1 (1 : Int32) := ⟨by decide, by decide⟩
                  obtain ⟨y_32, ey_32⟩ : ∃ z : Int32, z = v40_6 + 1 := ⟨_, rfl⟩
                  refine lv_iinc (v := y_32) (lv' := [(6, .int y_32), (2, .int y_31), (5, .int r_8), (4, .int v7_4), (3, .int v7_3), (0, .ref a0_), (1, .int x1_)]) hx hb dX10_fieldsThatMayChange_78 hl (k := 1) rfl (by rw [ey_32]; rfl) (by decide) rfl (fun ls hl => ?_)
                  have ty_32 := add_bd ey_32 b_20 kb_1 (by decide)
                  have b_33 : bd 1 500 y_32 := add_rg ty_32 b_20 kb_1 (by decide)
                  refine lv_goto (tgt := 40) hx hb dX10_fieldsThatMayChange_81 (by decide) ?_
                  have hl9 := lv_sub hl [0, 2, 3, 4, 1, 5, 6] (by rfl : lv_pick [(6, .int y_32), (2, .int y_31), (5, .int r_8), (4, .int v7_4), (3, .int v7_3), (0, .ref a0_), (1, .int x1_)] [0, 2, 3, 4, 1, 5, 6] = [(6, .int y_32), (5, .int r_8), (4, .int v7_4), (3, .int v7_3), (2, .int y_31), (0, .ref a0_), (1, .int x1_)])
                  have g9 := g.sub (fx' := [(6, 11, a_12, .int x_13), (7, 2, a_10, .ref a_11), (10, 0, a0_, .ref a_10)]) [2, 3, 4] rfl
                  exact ih40  y_32 y_31 (bd_sub b_33 (by decide)) (by have h9_0 := b_33; unfold bd at h9_0; have h9_1 := bdT v40_2; unfold bd at h9_1; have h9_2 := bdT y_31; unfold bd at h9_2; have h9_3 := bv40_6; unfold bd at h9_3; have h9_4 := kb_1; unfold bd at h9_4; have h9_5 := kb_5; unfold bd at h9_5; have h9_6 := kb_8; unfold bd at h9_6; have h9_7 := kb_m1; unfold bd at h9_7; omega) _ _ _ _ g9  hl9
          have hl9 := lv_sub hl [0, 1, 2, 3, 4, 5, 6] (by rfl : lv_pick [(6, .int x_13), (5, .int r_8), (4, .int v7_4), (3, .int v7_3), (2, .int v7_2), (0, .ref a0_), (1, .int x1_)] [0, 1, 2, 3, 4, 5, 6] = [(6, .int x_13), (5, .int r_8), (4, .int v7_4), (3, .int v7_3), (2, .int v7_2), (0, .ref a0_), (1, .int x1_)])
          have g9 := g.sub (fx' := [(6, 11, a_12, .int x_13), (7, 2, a_10, .ref a_11), (10, 0, a0_, .ref a_10)]) [0, 1, 2] rfl
          exact loop_14 (1003) x_13 v7_2 bx_13 (by have h9_0 := bdT v7_2; unfold bd at h9_0; have h9_1 := bx_13; unfold bd at h9_1; have h9_2 := kb_8; unfold bd at h9_2; have h9_3 := kb_m1; unfold bd at h9_3; omega) _ _ _ _ g9  hl9
  have kb_0 : bd 0 0 (0 : Int32) := ⟨by decide, by decide⟩
  have kb_m1 : bd (-1) (-1) ((-1) : Int32) := ⟨by decide, by decide⟩
  have hl9 := lv_sub hl [0, 1, 2, 3, 4] (by rfl : lv_pick [(4, .int 0), (3, .int x1_), (2, .int (-1)), (0, .ref a0_), (1, .int x1_)] [0, 1, 2, 3, 4] = [(4, .int 0), (3, .int x1_), (2, .int (-1)), (0, .ref a0_), (1, .int x1_)])
  have g9 := g.sub (fx' := []) [] rfl
  exact loop_1 (19) 0 x1_ (-1) (bd_sub kb_0 (by decide)) (bd_sub bx1_ (by decide)) (by have h9_0 := bx1_; unfold bd at h9_0; have h9_1 := kb_0; unfold bd at h9_1; have h9_2 := kb_m1; unfold bd at h9_2; omega) _ _ _ _ g9  hl9
set_option maxHeartbeats 4000000 in
set_option maxRecDepth 100000 in
theorem r_X4_breakAt (l : Launch) (dC : Nat → ClassId) (dI : Nat → Nat → Nat) (L : List Nat) (kd : Nat → Nat) (tys : List (ClassId × FieldType)) (f0 : Nat → va_E) (sz : Nat) (hWT : WT L kd tys f0) (a0_ : Nat) (ma0_ : a0_ ∈ L) (ka0_ : kd a0_ = 4) (x1_ : Int32) (x2_ : Int32) (x3_ : Int32) : Met l yX4_breakAt (.code yX4_breakAt cX4_breakAt 4 none :: lw_g) ({ frames := 0, cells := 0, slots := 0, locals := 0 }) (va_Pc [.ref a0_, .int x1_, .int x2_, .int x3_] (P3 (dC, dI) L tys f0 sz)) (va_Qv (fun (f : Nat → va_E) => (True)) (Q3 (dC, dI) L kd tys [(4, 0), (4, 3), (4, 4)] [] f0 sz) (pA L sz)) 0 0 (pA L sz) := by
  refine Met.ofW (cc := cX4_breakAt) (maxL := 4) (ret := none) (by decide) rfl ?_
  intro p e s m args below meth c s₁ B hml hv
  obtain ⟨rfl, hsz, hP, hK, hD0⟩ := hv
  have hx := B.exec
  have hb := B.bytes
  have hr := B.returns
  have hts := atoms_spec (ws := (.code yX4_breakAt cX4_breakAt 4 none :: lw_g)) B.pre
  have hown : s.vm.findClass RX4 = some m.cls := findClass_of_methodNamed B.named
  have hlocks := B.notSynchronized
  subst hsz
  have g : G3 (dC, dI) L kd tys s f0 [(4, 0), (4, 3), (4, 4)] [] f0 s.heap [] [] := G3.start hP hD0 hWT Fs.nil
  have hl := lv_entry ([.ref a0_, .int x1_, .int x2_, .int x3_]) (n := 4) (Nat.le_of_ble_eq_true rfl)
  rw [lg_entry_eq]
  generalize (lg_sl ([.ref a0_, .int x1_, .int x2_, .int x3_]) ++ List.replicate (4 - (lg_sl ([.ref a0_, .int x1_, .int x2_, .int x3_])).length) Slot.unset).toArray = ls at hl ⊢
  have hl : lv_has ls 4 [(0, .ref a0_), (1, .int x1_), (2, .int x2_), (3, .int x3_)] := hl
  refine W_q (fun Q hQ => ?_)
  refine lv_aload_n hx hb dX4_breakAt_0 rfl (lv_at hl 0 rfl) ?_
  refine lv_iload_n hx hb dX4_breakAt_1 rfl (lv_at hl 1 rfl) ?_
  refine g_put (C := RX4) (T := TX4) (N := 17) hx hb hts (mc_ inX4) tyX4 tyX4_ok nmX4 hown hK g ma0_ ka0_ (by decide) rfl 0 (by decide) (hts _ (List.mem_cons_of_mem _ t_836)) (fun _ h9 => h9) rfl rfl (okV_i (bdT x1_)) rfl rfl (by decide) (Or.inr (Or.inl (by decide))) (fx' := []) rfl dX4_breakAt_2 (fun f H locs hM_1 g => ?_)
  refine lv_aload_n hx hb dX4_breakAt_5 rfl (lv_at hl 0 rfl) ?_
  refine lv_iload_n hx hb dX4_breakAt_6 rfl (lv_at hl 2 rfl) ?_
  refine g_put (C := RX4) (T := TX4) (N := 17) hx hb hts (mc_ inX4) tyX4 tyX4_ok nmX4 hown hK g ma0_ ka0_ (by decide) rfl 3 (by decide) (hts _ (List.mem_cons_of_mem _ t_843)) (fun _ h9 => h9) rfl rfl (okV_i (bdT x2_)) rfl rfl (by decide) (Or.inr (Or.inl (by decide))) (fx' := [(4, 0, a0_, .int x1_)]) rfl dX4_breakAt_7 (fun f H locs hM_2 g => ?_)
  refine lv_aload_n hx hb dX4_breakAt_10 rfl (lv_at hl 0 rfl) ?_
  refine lv_iload_n hx hb dX4_breakAt_11 rfl (lv_at hl 3 rfl) ?_
  refine g_put (C := RX4) (T := TX4) (N := 17) hx hb hts (mc_ inX4) tyX4 tyX4_ok nmX4 hown hK g ma0_ ka0_ (by decide) rfl 4 (by decide) (hts _ (List.mem_cons_of_mem _ t_845)) (fun _ h9 => h9) rfl rfl (okV_i (bdT x3_)) rfl rfl (by decide) (Or.inr (Or.inl (by decide))) (fx' := [(4, 3, a0_, .int x2_), (4, 0, a0_, .int x1_)]) rfl dX4_breakAt_12 (fun f H locs hM_3 g => ?_)
  subst hQ
  exact W.vret hx hb hr (fun t ht hW => ⟨⟨_, rfl, trivial, q3_of g hK ht hW⟩, g.2.2.1.F ht⟩) g.2.2.1.2.2 dX4_breakAt_15
set_option maxHeartbeats 4000000 in
set_option maxRecDepth 100000 in
theorem r_X10_holds_8 (l : Launch) (dC : Nat → ClassId) (dI : Nat → Nat → Nat) (L : List Nat) (kd : Nat → Nat) (tys : List (ClassId × FieldType)) (f0 : Nat → va_E) (sz : Nat) (hWT : WT L kd tys f0) (a0_ : Nat) (ma0_ : a0_ ∈ L) (ka0_ : kd a0_ = 10) (a1_ : Nat) (ma1_ : a1_ ∈ L) (ka1_ : kd a1_ = 4) (x2_ : Int32) (bx2_ : bd 0 499 x2_) (x3_ : Int32) (bx3_ : bd 0 2 x3_) (q0_ : Nat) (mq0_ : q0_ ∈ L) (kq0_ : kd q0_ = 1) (q1_ : Nat) (mq1_ : q1_ ∈ L) (kq1_ : kd q1_ = 7) (q2_ : Nat) (mq2_ : q2_ ∈ L) (kq2_ : kd q2_ = 9) (y0_ : Int32) (by0_ : bd 1 1 y0_) (y1_ : Int32) (by1_ : bd 0 0 y1_) (y2_ : Int32) (by2_ : bd 1 8 y2_) (y3_ : Int32) (by3_ : bd 1 3 y3_) (y4_ : Int32) (by4_ : bd 0 9 y4_) (hGcq1_ : cOK f0 q1_) (hfx : Fs L kd f0 [(10, 1, a0_, .ref q0_), (1, 0, q0_, .ref q1_), (1, 1, q0_, .ref q2_), (4, 15, a1_, .int y0_), (4, 0, a1_, .int y1_), (7, 1, q1_, .int y2_), (4, 6, a1_, .int y3_), (4, 14, a1_, .int y4_)]) : Met l yX10_holds (.code yX10_holds cX10_holds 4 (some .boolean) :: lw_g) ({ frames := 2, cells := 0, slots := 0, locals := 50 }) (va_Pc [.ref a0_, .ref a1_, .int x2_, .int x3_] (P3 (dC, dI) L tys f0 sz)) (va_Qi (fun (r : Int32) (f : Nat → va_E) => (r = 0 ∧ Fs L kd f [(1, 12, q0_, .int 0), (1, 5, q0_, .int 1)]) ∨ (r = 1 ∧ ∃ z0_ : Int32, bd 1 1 z0_ ∧ ∃ z3_ : Int32, bd 0 0 z3_ ∧ Fs L kd f [(1, 15, q0_, .int z0_), (1, 12, q0_, .int 0), (1, 5, q0_, .int 1), (4, 0, a1_, .int z3_)])) (Q3 (dC, dI) L kd tys [(1, 5), (1, 6), (1, 8), (1, 11), (1, 12), (1, 13), (1, 14), (1, 15), (1, 16), (1, 17), (4, 0), (4, 1), (4, 2), (4, 5)] [100, 116, 117, 146] f0 sz) (pA L sz)) 0 0 (pA L sz) := by
  refine Met.ofW (cc := cX10_holds) (maxL := 4) (ret := (some .boolean)) (by decide) rfl ?_
  intro p e s m args below meth c s₁ B hml hv
  obtain ⟨rfl, hsz, hP, hK, hD0⟩ := hv
  have hx := B.exec
  have hb := B.bytes
  have hr := B.returns
  have hts := atoms_spec (ws := (.code yX10_holds cX10_holds 4 (some .boolean) :: lw_g)) B.pre
  have hown : s.vm.findClass RX10 = some m.cls := findClass_of_methodNamed B.named
  have hlocks := B.notSynchronized
  subst hsz
  have g : G3 (dC, dI) L kd tys s f0 [(1, 5), (1, 6), (1, 8), (1, 11), (1, 12), (1, 13), (1, 14), (1, 15), (1, 16), (1, 17), (4, 0), (4, 1), (4, 2), (4, 5)] [100, 116, 117, 146] f0 s.heap [] [(10, 1, a0_, .ref q0_), (1, 0, q0_, .ref q1_), (1, 1, q0_, .ref q2_), (4, 15, a1_, .int y0_), (4, 0, a1_, .int y1_), (7, 1, q1_, .int y2_), (4, 6, a1_, .int y3_), (4, 14, a1_, .int y4_)] := G3.start hP hD0 hWT hfx
  have hl := lv_entry ([.ref a0_, .ref a1_, .int x2_, .int x3_]) (n := 4) (Nat.le_of_ble_eq_true rfl)
  rw [lg_entry_eq]
  generalize (lg_sl ([.ref a0_, .ref a1_, .int x2_, .int x3_]) ++ List.replicate (4 - (lg_sl ([.ref a0_, .ref a1_, .int x2_, .int x3_])).length) Slot.unset).toArray = ls at hl ⊢
  have hl : lv_has ls 4 [(0, .ref a0_), (1, .ref a1_), (2, .int x2_), (3, .int x3_)] := hl
  refine W_q (fun Q hQ => ?_)
  refine lv_aload_n hx hb dX10_holds_0 rfl (lv_at hl 0 rfl) ?_
  refine g_getk (C := RX10) (T := TX10) (N := 10) hx hb hts (mc_ inX10) hown hK g rfl 1 (by decide) rfl (hts _ (List.mem_cons_of_mem _ t_913)) (fun _ h9 => h9) 0 rfl dX10_holds_1 ?_
  refine lv_aload_n hx hb dX10_holds_4 rfl (lv_at hl 0 rfl) ?_
  refine g_getr (K := 7) (C := RX10) (T := TX10) (N := 10) hx hb hts (mc_ inX10) hown hK g ma0_ ka0_ (by decide) rfl 0 (by decide) rfl (hts _ (List.mem_cons_of_mem _ t_912)) (fun _ h9 => h9) rfl dX10_holds_5 (fun a_1 ma_1 ka_1 g => ?_)
  refine g_getr (K := 141) (C := RX7) (T := TX7) (N := 19) hx hb hts (mc_ inX7) hown hK g ma_1 ka_1 (by decide) rfl 8 (by decide) rfl (hts _ (List.mem_cons_of_mem _ t_652)) (fun _ h9 => h9) rfl dX10_holds_8 (fun a_2 ma_2 ka_2 g => ?_)
  refine lv_iload_n hx hb dX10_holds_11 rfl (lv_at hl 2 rfl) ?_
  refine g_iald hx hb hK g ma_2 ka_2 (by decide) rfl (in_bd bx2_ (by decide)) dX10_holds_12 (fun x_3 bx_3 cx_3 => ?_)
  refine lv_aload_n hx hb dX10_holds_13 rfl (lv_at hl 1 rfl) ?_
  refine g_geti (C := RX4) (T := TX4) (N := 17) hx hb hts (mc_ inX4) hown hK g ma1_ ka1_ (by decide) rfl 16 (by decide) rfl (hts _ (List.mem_cons_of_mem _ t_876)) (fun _ h9 => h9) rfl dX10_holds_14 (fun x_4 bx_4 g => ?_)
  have go_ := g
  refine g_callv (va_runV (As := [.int x_3, .int x_4]) (rest := []) ⟨hx, hb, hml, hown, hts⟩ (r_X1_readyToAsk l dC dI L kd tys f0 s.heap.size g.2.2.2.1 q0_ mq0_ kq0_ x_3 x_4) (cwV 2 hts (gV_ t_1551 t_1552 t_1553 t_195 t_1554) rfl rfl rfl (by decide +kernel) ⟨(Nat.le_of_ble_eq_true rfl), (Nat.le_of_ble_eq_true rfl)⟩) (pre3V g hK mq0_ kq0_ (by decide) (q := (RX1, TX1, 18)) rfl) rfl rfl hl.1 rfl (lv_room (Nat.le_of_ble_eq_true rfl)) dX10_holds_17 ⟨(Nat.le_of_ble_eq_true rfl), (Nat.le_of_ble_eq_true rfl)⟩) g hK (by decide) (by decide) (fx' := [(4, 16, a1_, .int x_4), (7, 8, a_1, .ref a_2), (10, 0, a0_, .ref a_1), (10, 1, a0_, .ref q0_), (1, 0, q0_, .ref q1_), (1, 1, q0_, .ref q2_), (4, 15, a1_, .int y0_), (4, 0, a1_, .int y1_), (7, 1, q1_, .int y2_), (4, 6, a1_, .int y3_), (4, 14, a1_, .int y4_)]) rfl (fun fr_5 H locs hp hMr_5 g => ?_)
  have hF_6 := hp
  have hG_7 := cOK.frame hMr_5 go_.2.2.2.1 mq1_ kq1_ (by decide) (by decide) hGcq1_
  have g := g.more hF_6
  refine lv_aload_n hx hb dX10_holds_20 rfl (lv_at hl 0 rfl) ?_
  refine g_getk (C := RX10) (T := TX10) (N := 10) hx hb hts (mc_ inX10) hown hK g rfl 1 (by decide) rfl (hts _ (List.mem_cons_of_mem _ t_913)) (fun _ h9 => h9) 5 rfl dX10_holds_21 ?_
  have kb_0 : bd 0 0 (0 : Int32) := ⟨by decide, by decide⟩
  have kb_1 : bd 1 1 (1 : Int32) := ⟨by decide, by decide⟩
  have go_ := g
  refine g_callv (va_runV (As := []) (rest := []) ⟨hx, hb, hml, hown, hts⟩ (r_X1_go_2 l dC dI L kd tys fr_5 H.size g.2.2.2.1 q0_ mq0_ kq0_ q1_ mq1_ kq1_ q2_ mq2_ kq2_ 0 kb_0 1 kb_1 y2_ by2_ hG_7 (g.fcts [6, 7, 0, 1, 10] rfl)) (cwV 0 hts (gV_ t_1555 t_1556 t_1557 t_195 t_1558) rfl rfl rfl (by decide +kernel) ⟨(Nat.le_of_ble_eq_true rfl), (Nat.le_of_ble_eq_true rfl)⟩) (pre3V g hK mq0_ kq0_ (by decide) (q := (RX1, TX1, 18)) rfl) rfl rfl hl.1 rfl (lv_room (Nat.le_of_ble_eq_true rfl)) dX10_holds_24 ⟨(Nat.le_of_ble_eq_true rfl), (Nat.le_of_ble_eq_true rfl)⟩) g hK (by decide) (by decide) (fx' := [(1, 12, q0_, .int 0), (1, 5, q0_, .int 1), (4, 16, a1_, .int x_4), (7, 8, a_1, .ref a_2), (10, 0, a0_, .ref a_1), (10, 1, a0_, .ref q0_), (1, 0, q0_, .ref q1_), (1, 1, q0_, .ref q2_), (4, 15, a1_, .int y0_), (4, 0, a1_, .int y1_), (7, 1, q1_, .int y2_), (4, 6, a1_, .int y3_), (4, 14, a1_, .int y4_)]) rfl (fun fr_8 H locs hp hMr_8 g => ?_)
  have hG_9 := cOK.frame hMr_8 go_.2.2.2.1 mq1_ kq1_ (by decide) (by decide) hG_7
  refine lv_aload_n hx hb dX10_holds_27 rfl (lv_at hl 0 rfl) ?_
  refine g_getk (C := RX10) (T := TX10) (N := 10) hx hb hts (mc_ inX10) hown hK g rfl 1 (by decide) rfl (hts _ (List.mem_cons_of_mem _ t_913)) (fun _ h9 => h9) 5 rfl dX10_holds_28 ?_
  refine g_geti (C := RX1) (T := TX1) (N := 18) hx hb hts (mc_ inX1) hown hK g mq0_ kq0_ (by decide) rfl 15 (by decide) rfl (hts _ (List.mem_cons_of_mem _ t_751)) (fun _ h9 => h9) rfl dX10_holds_31 (fun x_10 bx_10 g => ?_)
  refine lv_iconst (v := 1) hx hb dX10_holds_34 (by decide) ?_
  refine lv_icmp_ne (tgt := 54) hx hb dX10_holds_35 (by decide) (fun c_11 => ?_) (fun c_11 => ?_)
  · have fc_11 := neq_f c_11
    refine lv_aload_n hx hb dX10_holds_54 rfl (lv_at hl 0 rfl) ?_
    refine g_getk (C := RX10) (T := TX10) (N := 10) hx hb hts (mc_ inX10) hown hK g rfl 1 (by decide) rfl (hts _ (List.mem_cons_of_mem _ t_913)) (fun _ h9 => h9) 6 rfl dX10_holds_55 ?_
    refine g_getk (C := RX1) (T := TX1) (N := 18) hx hb hts (mc_ inX1) hown hK g rfl 15 (by decide) rfl (hts _ (List.mem_cons_of_mem _ t_751)) (fun _ h9 => h9) 0 rfl dX10_holds_58 ?_
    refine lv_iconst (v := 2) hx hb dX10_holds_61 (by decide) ?_
    have kb_2 : bd 2 2 (2 : Int32) := ⟨by decide, by decide⟩
    refine lv_icmp_ne (tgt := 76) hx hb dX10_holds_62 (by decide) (fun c_12 => ?_) (fun c_12 => ?_)
    · have fc_12 := neq_f c_12
      refine lv_aload_n hx hb dX10_holds_76 rfl (lv_at hl 1 rfl) ?_
      refine lv_aload_n hx hb dX10_holds_77 rfl (lv_at hl 0 rfl) ?_
      refine g_getk (C := RX10) (T := TX10) (N := 10) hx hb hts (mc_ inX10) hown hK g rfl 1 (by decide) rfl (hts _ (List.mem_cons_of_mem _ t_913)) (fun _ h9 => h9) 6 rfl dX10_holds_78 ?_
      refine g_getk (C := RX1) (T := TX1) (N := 18) hx hb hts (mc_ inX1) hown hK g rfl 15 (by decide) rfl (hts _ (List.mem_cons_of_mem _ t_751)) (fun _ h9 => h9) 0 rfl dX10_holds_81 ?_
      refine lv_iconst (v := 4) hx hb dX10_holds_84 (by decide) ?_
      have kb_4 : bd 4 4 (4 : Int32) := ⟨by decide, by decide⟩
      refine lv_icmp_ne (tgt := 92) hx hb dX10_holds_85 (by decide) (fun c_13 => ?_) (fun c_13 => ?_)
      · have fc_13 := neq_f c_13
        refine lv_bipush (v := 7) hx hb dX10_holds_92 (by decide) ?_
        refine lv_iload_n hx hb dX10_holds_94 rfl (lv_at hl 2 rfl) ?_
        refine lv_iload_n hx hb dX10_holds_95 rfl (lv_at hl 3 rfl) ?_
        have go_ := g
        refine g_callv (va_runV (As := [.int 7, .int x2_, .int x3_]) (rest := []) ⟨hx, hb, hml, hown, hts⟩ (r_X4_breakBy l dC dI L kd tys fr_8 H.size g.2.2.2.1 a1_ ma1_ ka1_ 7 x2_ x3_) (cwV 3 hts (gV_ t_1606 t_1607 t_1608 t_197 t_1609) rfl rfl rfl (by decide +kernel) ⟨(Nat.le_of_ble_eq_true rfl), (Nat.le_of_ble_eq_true rfl)⟩) (pre3V g hK ma1_ ka1_ (by decide) (q := (RX4, TX4, 17)) rfl) rfl rfl hl.1 rfl (lv_room (Nat.le_of_ble_eq_true rfl)) dX10_holds_96 ⟨(Nat.le_of_ble_eq_true rfl), (Nat.le_of_ble_eq_true rfl)⟩) g hK (by decide) (by decide) (fx' := [(1, 15, q0_, .int x_10), (1, 12, q0_, .int 0), (1, 5, q0_, .int 1), (4, 16, a1_, .int x_4), (7, 8, a_1, .ref a_2), (10, 0, a0_, .ref a_1), (10, 1, a0_, .ref q0_), (1, 0, q0_, .ref q1_), (1, 1, q0_, .ref q2_), (4, 15, a1_, .int y0_), (7, 1, q1_, .int y2_), (4, 6, a1_, .int y3_), (4, 14, a1_, .int y4_)]) rfl (fun fr_14 H locs hp hMr_14 g => ?_)
        have hG_15 := cOK.frame hMr_14 go_.2.2.2.1 mq1_ kq1_ (by decide) (by decide) hG_9
        refine lv_iconst (v := 0) hx hb dX10_holds_99 (by decide) ?_
        subst hQ
        exact W.zret (v := 0) hx hb hr (nar_z (bd_sub kb_0 (by decide) : bd 0 1 _).1 (bd_sub kb_0 (by decide) : bd 0 1 _).2) (fun t ht hW => ⟨⟨_, _, rfl, Or.inl ⟨rfl, (g.fcts [1, 2] rfl)⟩, q3_of g hK ht hW⟩, g.2.2.1.F ht⟩) g.2.2.1.2.2 dX10_holds_100
      · have fc_13 := eq_f c_13
        have b_16 : bd 4 4 x_10 := eqX fc_13 (bdT x_10) kb_4 (by decide)
        refine lv_iconst (v := 5) hx hb dX10_holds_88 (by decide) ?_
        refine lv_goto (tgt := 94) hx hb dX10_holds_89 (by decide) ?_
        refine lv_iload_n hx hb dX10_holds_94 rfl (lv_at hl 2 rfl) ?_
        refine lv_iload_n hx hb dX10_holds_95 rfl (lv_at hl 3 rfl) ?_
        have go_ := g
        refine g_callv (va_runV (As := [.int 5, .int x2_, .int x3_]) (rest := []) ⟨hx, hb, hml, hown, hts⟩ (r_X4_breakBy l dC dI L kd tys fr_8 H.size g.2.2.2.1 a1_ ma1_ ka1_ 5 x2_ x3_) (cwV 3 hts (gV_ t_1606 t_1607 t_1608 t_197 t_1609) rfl rfl rfl (by decide +kernel) ⟨(Nat.le_of_ble_eq_true rfl), (Nat.le_of_ble_eq_true rfl)⟩) (pre3V g hK ma1_ ka1_ (by decide) (q := (RX4, TX4, 17)) rfl) rfl rfl hl.1 rfl (lv_room (Nat.le_of_ble_eq_true rfl)) dX10_holds_96 ⟨(Nat.le_of_ble_eq_true rfl), (Nat.le_of_ble_eq_true rfl)⟩) g hK (by decide) (by decide) (fx' := [(1, 15, q0_, .int x_10), (1, 12, q0_, .int 0), (1, 5, q0_, .int 1), (4, 16, a1_, .int x_4), (7, 8, a_1, .ref a_2), (10, 0, a0_, .ref a_1), (10, 1, a0_, .ref q0_), (1, 0, q0_, .ref q1_), (1, 1, q0_, .ref q2_), (4, 15, a1_, .int y0_), (7, 1, q1_, .int y2_), (4, 6, a1_, .int y3_), (4, 14, a1_, .int y4_)]) rfl (fun fr_17 H locs hp hMr_17 g => ?_)
        have hG_18 := cOK.frame hMr_17 go_.2.2.2.1 mq1_ kq1_ (by decide) (by decide) hG_9
        refine lv_iconst (v := 0) hx hb dX10_holds_99 (by decide) ?_
        subst hQ
        exact W.zret (v := 0) hx hb hr (nar_z (bd_sub kb_0 (by decide) : bd 0 1 _).1 (bd_sub kb_0 (by decide) : bd 0 1 _).2) (fun t ht hW => ⟨⟨_, _, rfl, Or.inl ⟨rfl, (g.fcts [1, 2] rfl)⟩, q3_of g hK ht hW⟩, g.2.2.1.F ht⟩) g.2.2.1.2.2 dX10_holds_100
    · have fc_12 := eq_f c_12
      have b_19 : bd 2 2 x_10 := eqX fc_12 (bdT x_10) kb_2 (by decide)
      refine lv_aload_n hx hb dX10_holds_65 rfl (lv_at hl 1 rfl) ?_
      refine lv_aload_n hx hb dX10_holds_66 rfl (lv_at hl 0 rfl) ?_
      refine g_getk (C := RX10) (T := TX10) (N := 10) hx hb hts (mc_ inX10) hown hK g rfl 1 (by decide) rfl (hts _ (List.mem_cons_of_mem _ t_913)) (fun _ h9 => h9) 6 rfl dX10_holds_67 ?_
      refine g_getl (C := RX1) (T := TX1) (N := 18) hx hb hts (mc_ inX1) hown hK g mq0_ kq0_ (by decide) rfl 17 (by decide) rfl (hts _ (List.mem_cons_of_mem _ t_755)) (fun _ h9 => h9) rfl dX10_holds_70 (fun x_20 g => ?_)
      have go_ := g
      refine g_put (C := RX4) (T := TX4) (N := 17) hx hb hts (mc_ inX4) tyX4 tyX4_ok nmX4 hown hK g ma1_ ka1_ (by decide) rfl 5 (by decide) (hts _ (List.mem_cons_of_mem _ t_848)) (fun _ h9 => h9) rfl rfl okV_l rfl rfl (by decide) (Or.inr (Or.inl (by decide))) (fx' := [(1, 17, q0_, .long x_20), (1, 15, q0_, .int x_10), (1, 12, q0_, .int 0), (1, 5, q0_, .int 1), (4, 16, a1_, .int x_4), (7, 8, a_1, .ref a_2), (10, 0, a0_, .ref a_1), (10, 1, a0_, .ref q0_), (1, 0, q0_, .ref q1_), (1, 1, q0_, .ref q2_), (4, 15, a1_, .int y0_), (4, 0, a1_, .int y1_), (7, 1, q1_, .int y2_), (4, 6, a1_, .int y3_), (4, 14, a1_, .int y4_)]) rfl dX10_holds_73 (fun f H locs hM_21 g => ?_)
      have hG_22 := cOK.frame hM_21 go_.2.2.2.1 mq1_ kq1_ (by decide) (by decide) hG_9
      refine lv_aload_n hx hb dX10_holds_76 rfl (lv_at hl 1 rfl) ?_
      refine lv_aload_n hx hb dX10_holds_77 rfl (lv_at hl 0 rfl) ?_
      refine g_getk (C := RX10) (T := TX10) (N := 10) hx hb hts (mc_ inX10) hown hK g rfl 1 (by decide) rfl (hts _ (List.mem_cons_of_mem _ t_913)) (fun _ h9 => h9) 8 rfl dX10_holds_78 ?_
      refine g_getk (C := RX1) (T := TX1) (N := 18) hx hb hts (mc_ inX1) hown hK g rfl 15 (by decide) rfl (hts _ (List.mem_cons_of_mem _ t_751)) (fun _ h9 => h9) 2 rfl dX10_holds_81 ?_
      refine lv_iconst (v := 4) hx hb dX10_holds_84 (by decide) ?_
      have kb_4 : bd 4 4 (4 : Int32) := ⟨by decide, by decide⟩
      refine lv_icmp_ne (tgt := 92) hx hb dX10_holds_85 (by decide) (fun c_23 => ?_) (fun c_23 => ?_)
      · have fc_23 := neq_f c_23
        refine lv_bipush (v := 7) hx hb dX10_holds_92 (by decide) ?_
        refine lv_iload_n hx hb dX10_holds_94 rfl (lv_at hl 2 rfl) ?_
        refine lv_iload_n hx hb dX10_holds_95 rfl (lv_at hl 3 rfl) ?_
        have go_ := g
        refine g_callv (va_runV (As := [.int 7, .int x2_, .int x3_]) (rest := []) ⟨hx, hb, hml, hown, hts⟩ (r_X4_breakBy l dC dI L kd tys f H.size g.2.2.2.1 a1_ ma1_ ka1_ 7 x2_ x3_) (cwV 3 hts (gV_ t_1606 t_1607 t_1608 t_197 t_1609) rfl rfl rfl (by decide +kernel) ⟨(Nat.le_of_ble_eq_true rfl), (Nat.le_of_ble_eq_true rfl)⟩) (pre3V g hK ma1_ ka1_ (by decide) (q := (RX4, TX4, 17)) rfl) rfl rfl hl.1 rfl (lv_room (Nat.le_of_ble_eq_true rfl)) dX10_holds_96 ⟨(Nat.le_of_ble_eq_true rfl), (Nat.le_of_ble_eq_true rfl)⟩) g hK (by decide) (by decide) (fx' := [(4, 5, a1_, .long x_20), (1, 17, q0_, .long x_20), (1, 15, q0_, .int x_10), (1, 12, q0_, .int 0), (1, 5, q0_, .int 1), (4, 16, a1_, .int x_4), (7, 8, a_1, .ref a_2), (10, 0, a0_, .ref a_1), (10, 1, a0_, .ref q0_), (1, 0, q0_, .ref q1_), (1, 1, q0_, .ref q2_), (4, 15, a1_, .int y0_), (7, 1, q1_, .int y2_), (4, 6, a1_, .int y3_), (4, 14, a1_, .int y4_)]) rfl (fun fr_24 H locs hp hMr_24 g => ?_)
        have hG_25 := cOK.frame hMr_24 go_.2.2.2.1 mq1_ kq1_ (by decide) (by decide) hG_22
        refine lv_iconst (v := 0) hx hb dX10_holds_99 (by decide) ?_
        subst hQ
        exact W.zret (v := 0) hx hb hr (nar_z (bd_sub kb_0 (by decide) : bd 0 1 _).1 (bd_sub kb_0 (by decide) : bd 0 1 _).2) (fun t ht hW => ⟨⟨_, _, rfl, Or.inl ⟨rfl, (g.fcts [3, 4] rfl)⟩, q3_of g hK ht hW⟩, g.2.2.1.F ht⟩) g.2.2.1.2.2 dX10_holds_100
      · have fc_23 := eq_f c_23
        have b_26 : bd 4 2 x_10 := eqX fc_23 b_19 kb_4 (by decide)
        exact bd_no b_26 (by decide)
  · have fc_11 := eq_f c_11
    have b_27 : bd 1 1 x_10 := eqX fc_11 (bdT x_10) kb_1 (by decide)
    refine lv_aload_n hx hb dX10_holds_38 rfl (lv_at hl 0 rfl) ?_
    refine g_getk (C := RX10) (T := TX10) (N := 10) hx hb hts (mc_ inX10) hown hK g rfl 1 (by decide) rfl (hts _ (List.mem_cons_of_mem _ t_913)) (fun _ h9 => h9) 6 rfl dX10_holds_39 ?_
    refine g_geti (C := RX1) (T := TX1) (N := 18) hx hb hts (mc_ inX1) hown hK g mq0_ kq0_ (by decide) rfl 16 (by decide) rfl (hts _ (List.mem_cons_of_mem _ t_753)) (fun _ h9 => h9) rfl dX10_holds_42 (fun x_28 bx_28 g => ?_)
    refine lv_if_eq (tgt := 52) hx hb dX10_holds_45 (by decide) (fun c_29 => ?_) (fun c_29 => ?_)
    · have fc_29 := eq_f c_29
      have b_30 : bd 0 0 x_28 := eqX fc_29 (bdT x_28) kb_0 (by decide)
      refine lv_iconst (v := 0) hx hb dX10_holds_52 (by decide) ?_
      subst hQ
      exact W.zret (v := 0) hx hb hr (nar_z (bd_sub kb_0 (by decide) : bd 0 1 _).1 (bd_sub kb_0 (by decide) : bd 0 1 _).2) (fun t ht hW => ⟨⟨_, _, rfl, Or.inl ⟨rfl, (g.fcts [2, 3] rfl)⟩, q3_of g hK ht hW⟩, g.2.2.1.F ht⟩) g.2.2.1.2.2 dX10_holds_53
    · have fc_29 := neq_f c_29
      refine lv_iconst (v := 1) hx hb dX10_holds_48 (by decide) ?_
      refine lv_goto (tgt := 53) hx hb dX10_holds_49 (by decide) ?_
      subst hQ
      exact W.zret (v := 1) hx hb hr (nar_z (bd_sub kb_1 (by decide) : bd 0 1 _).1 (bd_sub kb_1 (by decide) : bd 0 1 _).2) (fun t ht hW => ⟨⟨_, _, rfl, Or.inr (⟨rfl, x_10, b_27, y1_, by1_, (g.fcts [1, 2, 3, 11] rfl)⟩), q3_of g hK ht hW⟩, g.2.2.1.F ht⟩) g.2.2.1.2.2 dX10_holds_53
set_option maxHeartbeats 4000000 in
set_option maxRecDepth 100000 in
theorem r_X10_askGives (l : Launch) (dC : Nat → ClassId) (dI : Nat → Nat → Nat) (L : List Nat) (kd : Nat → Nat) (tys : List (ClassId × FieldType)) (f0 : Nat → va_E) (sz : Nat) (hWT : WT L kd tys f0) (a0_ : Nat) (ma0_ : a0_ ∈ L) (ka0_ : kd a0_ = 10) (a1_ : Nat) (ma1_ : a1_ ∈ L) (ka1_ : kd a1_ = 4) (x2_ : Int32) (bx2_ : bd 0 2 x2_) (x3_ : Int32) (bx3_ : bd 0 95 x3_) (q0_ : Nat) (mq0_ : q0_ ∈ L) (kq0_ : kd q0_ = 1) (q1_ : Nat) (mq1_ : q1_ ∈ L) (kq1_ : kd q1_ = 7) (q2_ : Nat) (mq2_ : q2_ ∈ L) (kq2_ : kd q2_ = 9) (y0_ : Int32) (by0_ : bd 1 8 y0_) (y1_ : Int32) (by1_ : bd 1 3 y1_) (y2_ : Int32) (by2_ : bd 0 9 y2_) (hGcq1_ : cOK f0 q1_) (hfx : Fs L kd f0 [(10, 1, a0_, .ref q0_), (1, 0, q0_, .ref q1_), (1, 1, q0_, .ref q2_), (7, 1, q1_, .int y0_), (4, 6, a1_, .int y1_), (4, 14, a1_, .int y2_)]) : Met l yX10_askGives (.code yX10_askGives cX10_askGives 8 none :: lw_g) ({ frames := 3, cells := 0, slots := 0, locals := 73 }) (va_Pc [.ref a0_, .ref a1_, .int x2_, .int x3_] (P3 (dC, dI) L tys f0 sz)) (va_Qv (fun (f : Nat → va_E) => (True)) (Q3 (dC, dI) L kd tys [(1, 5), (1, 6), (1, 8), (1, 11), (1, 12), (1, 13), (1, 14), (1, 15), (1, 16), (1, 17), (4, 0), (4, 1), (4, 2), (4, 5)] [100, 116, 117, 146] f0 sz) (pA L sz)) 0 0 (pA L sz) := by
  refine Met.ofW (cc := cX10_askGives) (maxL := 8) (ret := none) (by decide) rfl ?_
  intro p e s m args below meth c s₁ B hml hv
  obtain ⟨rfl, hsz, hP, hK, hD0⟩ := hv
  have hx := B.exec
  have hb := B.bytes
  have hr := B.returns
  have hts := atoms_spec (ws := (.code yX10_askGives cX10_askGives 8 none :: lw_g)) B.pre
  have hown : s.vm.findClass RX10 = some m.cls := findClass_of_methodNamed B.named
  have hlocks := B.notSynchronized
  subst hsz
  have g : G3 (dC, dI) L kd tys s f0 [(1, 5), (1, 6), (1, 8), (1, 11), (1, 12), (1, 13), (1, 14), (1, 15), (1, 16), (1, 17), (4, 0), (4, 1), (4, 2), (4, 5)] [100, 116, 117, 146] f0 s.heap [] [(10, 1, a0_, .ref q0_), (1, 0, q0_, .ref q1_), (1, 1, q0_, .ref q2_), (7, 1, q1_, .int y0_), (4, 6, a1_, .int y1_), (4, 14, a1_, .int y2_)] := G3.start hP hD0 hWT hfx
  have hl := lv_entry ([.ref a0_, .ref a1_, .int x2_, .int x3_]) (n := 8) (Nat.le_of_ble_eq_true rfl)
  rw [lg_entry_eq]
  generalize (lg_sl ([.ref a0_, .ref a1_, .int x2_, .int x3_]) ++ List.replicate (8 - (lg_sl ([.ref a0_, .ref a1_, .int x2_, .int x3_])).length) Slot.unset).toArray = ls at hl ⊢
  have hl : lv_has ls 8 [(0, .ref a0_), (1, .ref a1_), (2, .int x2_), (3, .int x3_)] := hl
  refine W_q (fun Q hQ => ?_)
  refine lv_aload_n hx hb dX10_askGives_0 rfl (lv_at hl 1 rfl) ?_
  refine g_geti (C := RX4) (T := TX4) (N := 17) hx hb hts (mc_ inX4) hown hK g ma1_ ka1_ (by decide) rfl 0 (by decide) rfl (hts _ (List.mem_cons_of_mem _ t_837)) (fun _ h9 => h9) rfl dX10_askGives_1 (fun x_1 bx_1 g => ?_)
  have kb_0 : bd 0 0 (0 : Int32) := ⟨by decide, by decide⟩
  refine lv_if_ne (tgt := 15) hx hb dX10_askGives_4 (by decide) (fun c_2 => ?_) (fun c_2 => ?_)
  · have fc_2 := neq_f c_2
    subst hQ
    exact W.vret hx hb hr (fun t ht hW => ⟨⟨_, rfl, trivial, q3_of g hK ht hW⟩, g.2.2.1.F ht⟩) g.2.2.1.2.2 dX10_askGives_15
  · have fc_2 := eq_f c_2
    have b_3 : bd 0 0 x_1 := eqX fc_2 (bdT x_1) kb_0 (by decide)
    refine lv_aload_n hx hb dX10_askGives_7 rfl (lv_at hl 1 rfl) ?_
    refine g_geti (C := RX4) (T := TX4) (N := 17) hx hb hts (mc_ inX4) hown hK g ma1_ ka1_ (by decide) rfl 15 (by decide) rfl (hts _ (List.mem_cons_of_mem _ t_875)) (fun _ h9 => h9) rfl dX10_askGives_8 (fun x_4 bx_4 g => ?_)
    refine lv_iconst (v := 1) hx hb dX10_askGives_11 (by decide) ?_
    have kb_1 : bd 1 1 (1 : Int32) := ⟨by decide, by decide⟩
    refine lv_icmp_eq (tgt := 16) hx hb dX10_askGives_12 (by decide) (fun c_5 => ?_) (fun c_5 => ?_)
    · have fc_5 := eq_f c_5
      have b_6 : bd 1 1 x_4 := eqX fc_5 (bdT x_4) kb_1 (by decide)
      refine lv_iload_n hx hb dX10_askGives_16 rfl (lv_at hl 3 rfl) ?_
      refine lv_istore (lv' := [(4, .int x3_), (0, .ref a0_), (1, .ref a1_), (2, .int x2_), (3, .int x3_)]) hx hb dX10_askGives_17 hl (by decide) rfl (fun ls hl => ?_)
      refine lv_iconst (v := 0) hx hb dX10_askGives_19 (by decide) ?_
      refine lv_istore (lv' := [(5, .int 0), (4, .int x3_), (0, .ref a0_), (1, .ref a1_), (2, .int x2_), (3, .int x3_)]) hx hb dX10_askGives_20 hl (by decide) rfl (fun ls hl => ?_)
      have loop_7 : ∀ (n : Nat) (v22_5 : Int32) (v22_4 : Int32) (w22_4_0_a1_ : Int32), bd 0 8 v22_5 → bd (-1) 95 v22_4 → bd 0 0 w22_4_0_a1_ → (8 - v22_5.toInt < (n : Int)) → ∀ (f : Nat → va_E) (H : Heap) (locs : List Loc) (ls : Array Slot), G3 (dC, dI) L kd tys s f0 [(1, 5), (1, 6), (1, 8), (1, 11), (1, 12), (1, 13), (1, 14), (1, 15), (1, 16), (1, 17), (4, 0), (4, 1), (4, 2), (4, 5)] [100, 116, 117, 146] f H locs [(4, 15, a1_, .int x_4), (4, 0, a1_, .int w22_4_0_a1_), (10, 1, a0_, .ref q0_), (1, 0, q0_, .ref q1_), (1, 1, q0_, .ref q2_), (7, 1, q1_, .int y0_), (4, 6, a1_, .int y1_), (4, 14, a1_, .int y2_)] → cOK f q1_ → lv_has ls 8 [(5, .int v22_5), (4, .int v22_4), (0, .ref a0_), (1, .ref a1_), (2, .int x2_), (3, .int x3_)] → W p l e ({ frames := 3, cells := 0, slots := 0, locals := 73 } : Room) s m [.ref a0_, .ref a1_, .int x2_, .int x3_].toArray below meth c H locs 0 0 Q (F0 m 22 ls []) := by
        intro n22
        induction n22 with
        | zero =>
          intro v22_5 v22_4 w22_4_0_a1_ bv22_5 bv22_4 bw22_4_0_a1_ hm22 f H locs ls g hG22_c_q1_ hl
          exact absurd hm22 (by have h9_v22_5 := bv22_5; unfold bd at h9_v22_5; have h9_v22_4 := bv22_4; unfold bd at h9_v22_4; have h9_w22_4_0_a1_ := bw22_4_0_a1_; unfold bd at h9_w22_4_0_a1_; omega)
        | succ n22 ih22 =>
          intro v22_5 v22_4 w22_4_0_a1_ bv22_5 bv22_4 bw22_4_0_a1_ hm22 f H locs ls g hG22_c_q1_ hl
          refine lv_iload hx hb dX10_askGives_22 (lv_at hl 0 rfl) ?_
          refine lv_bipush (v := 8) hx hb dX10_askGives_24 (by decide) ?_
          have kb_8 : bd 8 8 (8 : Int32) := ⟨by decide, by decide⟩
          refine lv_icmp_ge (tgt := 133) hx hb dX10_askGives_26 (by decide) (fun c_8 => ?_) (fun c_8 => ?_)
          · have fc_8 := le_f c_8
            have b_9 : bd 8 8 v22_5 := leR fc_8 kb_8 bv22_5 (by decide)
            subst hQ
            exact W.vret hx hb hr (fun t ht hW => ⟨⟨_, rfl, trivial, q3_of g hK ht hW⟩, g.2.2.1.F ht⟩) g.2.2.1.2.2 dX10_askGives_133
          · have fc_8 := nle_f c_8
            have b_10 : bd 0 7 v22_5 := ltL fc_8 bv22_5 kb_8 (by decide)
            refine lv_iload hx hb dX10_askGives_29 (lv_at hl 1 rfl) ?_
            refine lv_iconst (v := (-1)) hx hb dX10_askGives_31 (by decide) ?_
            have kb_m1 : bd (-1) (-1) ((-1) : Int32) := ⟨by decide, by decide⟩
            refine lv_icmp_eq (tgt := 133) hx hb dX10_askGives_32 (by decide) (fun c_11 => ?_) (fun c_11 => ?_)
            · have fc_11 := eq_f c_11
              have b_12 : bd (-1) (-1) v22_4 := eqX fc_11 bv22_4 kb_m1 (by decide)
              subst hQ
              exact W.vret hx hb hr (fun t ht hW => ⟨⟨_, rfl, trivial, q3_of g hK ht hW⟩, g.2.2.1.F ht⟩) g.2.2.1.2.2 dX10_askGives_133
            · have fc_11 := neq_f c_11
              have b_13 : bd 0 95 v22_4 := neX fc_11 bv22_4 kb_m1 (by decide)
              refine lv_aload_n hx hb dX10_askGives_35 rfl (lv_at hl 2 rfl) ?_
              refine lv_iload hx hb dX10_askGives_36 (lv_at hl 1 rfl) ?_
              have go_ := g
              refine g_calli (va_runV (As := [.int v22_4]) (rest := []) ⟨hx, hb, hml, hown, hts⟩ (r_X10_lastMark l dC dI L kd tys f H.size g.2.2.2.1 a0_ ma0_ ka0_ v22_4 b_13) (cwV 1 hts (gV_ t_1620 t_1622 t_71 t_194 t_1623) rfl rfl rfl (by decide +kernel) ⟨(Nat.le_of_ble_eq_true rfl), (Nat.le_of_ble_eq_true rfl)⟩) (pre3V g hK ma0_ ka0_ (by decide) (q := (RX10, TX10, 10)) rfl) rfl rfl hl.1 rfl (lv_room (Nat.le_of_ble_eq_true rfl)) dX10_askGives_38 ⟨(Nat.le_of_ble_eq_true rfl), (Nat.le_of_ble_eq_true rfl)⟩) g hK (by decide) (by decide) (fx' := [(4, 15, a1_, .int x_4), (4, 0, a1_, .int w22_4_0_a1_), (10, 1, a0_, .ref q0_), (1, 0, q0_, .ref q1_), (1, 1, q0_, .ref q2_), (7, 1, q1_, .int y0_), (4, 6, a1_, .int y1_), (4, 14, a1_, .int y2_)]) rfl (fun r_14 fr_14 H locs hp hMr_14 g => ?_)
              obtain ⟨h_15, -⟩ := hp
              have hG_16 := cOK.frame hMr_14 go_.2.2.2.1 mq1_ kq1_ (by decide) (by decide) hG22_c_q1_
              refine lv_istore (lv' := [(6, .int r_14), (5, .int v22_5), (4, .int v22_4), (0, .ref a0_), (1, .ref a1_), (2, .int x2_), (3, .int x3_)]) hx hb dX10_askGives_41 hl (by decide) rfl (fun ls hl => ?_)
              refine lv_aload_n hx hb dX10_askGives_43 rfl (lv_at hl 3 rfl) ?_
              refine g_getr (K := 7) (C := RX10) (T := TX10) (N := 10) hx hb hts (mc_ inX10) hown hK g ma0_ ka0_ (by decide) rfl 0 (by decide) rfl (hts _ (List.mem_cons_of_mem _ t_912)) (fun _ h9 => h9) rfl dX10_askGives_44 (fun a_17 ma_17 ka_17 g => ?_)
              refine g_getr (K := 137) (C := RX7) (T := TX7) (N := 19) hx hb hts (mc_ inX7) hown hK g ma_17 ka_17 (by decide) rfl 2 (by decide) rfl (hts _ (List.mem_cons_of_mem _ t_634)) (fun _ h9 => h9) rfl dX10_askGives_47 (fun a_18 ma_18 ka_18 g => ?_)
              refine lv_iload hx hb dX10_askGives_50 (lv_at hl 2 rfl) ?_
              refine g_aald hx hb hK g ma_18 ka_18 (by decide) rfl (by decide) (in_bd b_13 (by decide)) dX10_askGives_52 (fun a_19 ma_19 ua_19 wa_19 => ?_)
              have ka_19 : kd a_19 = 6 := by omega
              refine g_geti (C := RX6) (T := TX6) (N := 13) hx hb hts (mc_ inX6) hown hK g ma_19 ka_19 (by decide) rfl 11 (by decide) rfl (hts _ (List.mem_cons_of_mem _ t_590)) (fun _ h9 => h9) rfl dX10_askGives_53 (fun x_20 bx_20 g => ?_)
              refine lv_istore (lv' := [(7, .int x_20), (6, .int r_14), (5, .int v22_5), (4, .int v22_4), (0, .ref a0_), (1, .ref a1_), (2, .int x2_), (3, .int x3_)]) hx hb dX10_askGives_56 hl (by decide) rfl (fun ls hl => ?_)
              have loop_21 : ∀ (n : Nat) (v58_7 : Int32) (w58_4_0_a1_ : Int32), bd 0 500 v58_7 → bd 0 0 w58_4_0_a1_ → (500 - v58_7.toInt < (n : Int)) → ∀ (f : Nat → va_E) (H : Heap) (locs : List Loc) (ls : Array Slot), G3 (dC, dI) L kd tys s f0 [(1, 5), (1, 6), (1, 8), (1, 11), (1, 12), (1, 13), (1, 14), (1, 15), (1, 16), (1, 17), (4, 0), (4, 1), (4, 2), (4, 5)] [100, 116, 117, 146] f H locs [(6, 11, a_19, .int x_20), (7, 2, a_17, .ref a_18), (10, 0, a0_, .ref a_17), (4, 15, a1_, .int x_4), (4, 0, a1_, .int w58_4_0_a1_), (10, 1, a0_, .ref q0_), (1, 0, q0_, .ref q1_), (1, 1, q0_, .ref q2_), (7, 1, q1_, .int y0_), (4, 6, a1_, .int y1_), (4, 14, a1_, .int y2_)] → cOK f q1_ → lv_has ls 8 [(7, .int v58_7), (6, .int r_14), (5, .int v22_5), (4, .int v22_4), (0, .ref a0_), (1, .ref a1_), (2, .int x2_), (3, .int x3_)] → W p l e ({ frames := 3, cells := 0, slots := 0, locals := 73 } : Room) s m [.ref a0_, .ref a1_, .int x2_, .int x3_].toArray below meth c H locs 0 0 Q (F0 m 58 ls []) := by
                intro n58
                induction n58 with
                | zero =>
                  intro v58_7 w58_4_0_a1_ bv58_7 bw58_4_0_a1_ hm58 f H locs ls g hG58_c_q1_ hl
                  exact absurd hm58 (by have h9_v58_7 := bv58_7; unfold bd at h9_v58_7; have h9_w58_4_0_a1_ := bw58_4_0_a1_; unfold bd at h9_w58_4_0_a1_; omega)
                | succ n58 ih58 =>
                  intro v58_7 w58_4_0_a1_ bv58_7 bw58_4_0_a1_ hm58 f H locs ls g hG58_c_q1_ hl
                  refine lv_iload hx hb dX10_askGives_58 (lv_at hl 0 rfl) ?_
                  refine lv_iload hx hb dX10_askGives_60 (lv_at hl 1 rfl) ?_
                  refine lv_icmp_gt (tgt := 119) hx hb dX10_askGives_62 (by decide) (fun c_22 => ?_) (fun c_22 => ?_)
                  · have fc_22 := lt_f c_22
                    refine lv_aload_n hx hb dX10_askGives_119 rfl (lv_at hl 4 rfl) ?_
                    refine lv_iload hx hb dX10_askGives_120 (lv_at hl 3 rfl) ?_
                    have go_ := g
                    refine g_calli (va_runV (As := [.int v22_4]) (rest := []) ⟨hx, hb, hml, hown, hts⟩ (r_X10_upwards l dC dI L kd tys f H.size g.2.2.2.1 a0_ ma0_ ka0_ v22_4) (cwV 1 hts (gV_ t_1625 t_1627 t_72 t_194 t_1628) rfl rfl rfl (by decide +kernel) ⟨(Nat.le_of_ble_eq_true rfl), (Nat.le_of_ble_eq_true rfl)⟩) (pre3V g hK ma0_ ka0_ (by decide) (q := (RX10, TX10, 10)) rfl) rfl rfl hl.1 rfl (lv_room (Nat.le_of_ble_eq_true rfl)) dX10_askGives_122 ⟨(Nat.le_of_ble_eq_true rfl), (Nat.le_of_ble_eq_true rfl)⟩) g hK (by decide) (by decide) (fx' := [(6, 11, a_19, .int x_20), (7, 2, a_17, .ref a_18), (10, 0, a0_, .ref a_17), (4, 15, a1_, .int x_4), (4, 0, a1_, .int w58_4_0_a1_), (10, 1, a0_, .ref q0_), (1, 0, q0_, .ref q1_), (1, 1, q0_, .ref q2_), (7, 1, q1_, .int y0_), (4, 6, a1_, .int y1_), (4, 14, a1_, .int y2_)]) rfl (fun r_23 fr_23 H locs hp hMr_23 g => ?_)
                    obtain ⟨h_24, -⟩ := hp
                    have hG_25 := cOK.frame hMr_23 go_.2.2.2.1 mq1_ kq1_ (by decide) (by decide) hG58_c_q1_
                    refine lv_istore (lv' := [(4, .int r_23), (7, .int v58_7), (6, .int r_14), (5, .int v22_5), (0, .ref a0_), (1, .ref a1_), (2, .int x2_), (3, .int x3_)]) hx hb dX10_askGives_125 hl (by decide) rfl (fun ls hl => ?_)
                    obtain ⟨y_26, ey_26⟩ : ∃ z : Int32, z = v22_5 + 1 := ⟨_, rfl⟩
                    refine lv_iinc (v := y_26) (lv' := [(5, .int y_26), (4, .int r_23), (7, .int v58_7), (6, .int r_14), (0, .ref a0_), (1, .ref a1_), (2, .int x2_), (3, .int x3_)]) hx hb dX10_askGives_127 hl (k := 3) rfl (by rw [ey_26]; rfl) (by decide) rfl (fun ls hl => ?_)
                    have ty_26 := add_bd ey_26 b_10 kb_1 (by decide)
                    have b_27 : bd 1 8 y_26 := add_rg ty_26 b_10 kb_1 (by decide)
                    refine lv_goto (tgt := 22) hx hb dX10_askGives_130 (by decide) ?_
                    have hl9 := lv_sub hl [0, 1, 4, 5, 6, 7] (by rfl : lv_pick [(5, .int y_26), (4, .int r_23), (7, .int v58_7), (6, .int r_14), (0, .ref a0_), (1, .ref a1_), (2, .int x2_), (3, .int x3_)] [0, 1, 4, 5, 6, 7] = [(5, .int y_26), (4, .int r_23), (0, .ref a0_), (1, .ref a1_), (2, .int x2_), (3, .int x3_)])
                    have g9 := g.sub (fx' := [(4, 15, a1_, .int x_4), (4, 0, a1_, .int w58_4_0_a1_), (10, 1, a0_, .ref q0_), (1, 0, q0_, .ref q1_), (1, 1, q0_, .ref q2_), (7, 1, q1_, .int y0_), (4, 6, a1_, .int y1_), (4, 14, a1_, .int y2_)]) [3, 4, 5, 6, 7, 8, 9, 10] rfl
                    exact ih22  y_26 r_23 w58_4_0_a1_ (bd_sub b_27 (by decide)) h_24 bw58_4_0_a1_ (by have h9_0 := b_27; unfold bd at h9_0; have h9_1 := bv22_4; unfold bd at h9_1; have h9_2 := bv22_5; unfold bd at h9_2; have h9_3 := bw22_4_0_a1_; unfold bd at h9_3; have h9_4 := bw58_4_0_a1_; unfold bd at h9_4; have h9_5 := h_24; unfold bd at h9_5; have h9_6 := kb_0; unfold bd at h9_6; have h9_7 := kb_1; unfold bd at h9_7; have h9_8 := kb_8; unfold bd at h9_8; have h9_9 := kb_m1; unfold bd at h9_9; omega) _ _ _ _ g9 hG_25 hl9
                  · have fc_22 := nlt_f c_22
                    have b_28 : bd 0 499 v58_7 := leL fc_22 bv58_7 h_15 (by decide)
                    have b_29 : bd 0 499 r_14 := leR fc_22 bv58_7 h_15 (by decide)
                    refine lv_aload_n hx hb dX10_askGives_65 rfl (lv_at hl 4 rfl) ?_
                    refine g_getk (C := RX10) (T := TX10) (N := 10) hx hb hts (mc_ inX10) hown hK g rfl 0 (by decide) rfl (hts _ (List.mem_cons_of_mem _ t_912)) (fun _ h9 => h9) 2 rfl dX10_askGives_66 ?_
                    refine g_getr (K := 140) (C := RX7) (T := TX7) (N := 19) hx hb hts (mc_ inX7) hown hK g ma_17 ka_17 (by decide) rfl 7 (by decide) rfl (hts _ (List.mem_cons_of_mem _ t_650)) (fun _ h9 => h9) rfl dX10_askGives_69 (fun a_30 ma_30 ka_30 g => ?_)
                    refine lv_iload hx hb dX10_askGives_72 (lv_at hl 0 rfl) ?_
                    refine g_iald hx hb hK g ma_30 ka_30 (by decide) rfl (in_bd b_28 (by decide)) dX10_askGives_74 (fun x_31 bx_31 cx_31 => ?_)
                    refine lv_iconst (v := 2) hx hb dX10_askGives_75 (by decide) ?_
                    have kb_2 : bd 2 2 (2 : Int32) := ⟨by decide, by decide⟩
                    refine lv_icmp_ne (tgt := 113) hx hb dX10_askGives_76 (by decide) (fun c_32 => ?_) (fun c_32 => ?_)
                    · have fc_32 := neq_f c_32
                      obtain ⟨y_33, ey_33⟩ : ∃ z : Int32, z = v58_7 + 1 := ⟨_, rfl⟩
                      refine lv_iinc (v := y_33) (lv' := [(7, .int y_33), (6, .int r_14), (5, .int v22_5), (4, .int v22_4), (0, .ref a0_), (1, .ref a1_), (2, .int x2_), (3, .int x3_)]) hx hb dX10_askGives_113 hl (k := 0) rfl (by rw [ey_33]; rfl) (by decide) rfl (fun ls hl => ?_)
                      have ty_33 := add_bd ey_33 b_28 kb_1 (by decide)
                      have b_34 : bd 1 500 y_33 := add_rg ty_33 b_28 kb_1 (by decide)
                      refine lv_goto (tgt := 58) hx hb dX10_askGives_116 (by decide) ?_
                      have hl9 := lv_sub hl [0, 1, 2, 3, 4, 5, 6, 7] (by rfl : lv_pick [(7, .int y_33), (6, .int r_14), (5, .int v22_5), (4, .int v22_4), (0, .ref a0_), (1, .ref a1_), (2, .int x2_), (3, .int x3_)] [0, 1, 2, 3, 4, 5, 6, 7] = [(7, .int y_33), (6, .int r_14), (5, .int v22_5), (4, .int v22_4), (0, .ref a0_), (1, .ref a1_), (2, .int x2_), (3, .int x3_)])
                      have g9 := g.sub (fx' := [(6, 11, a_19, .int x_20), (7, 2, a_17, .ref a_18), (10, 0, a0_, .ref a_17), (4, 15, a1_, .int x_4), (4, 0, a1_, .int w58_4_0_a1_), (10, 1, a0_, .ref q0_), (1, 0, q0_, .ref q1_), (1, 1, q0_, .ref q2_), (7, 1, q1_, .int y0_), (4, 6, a1_, .int y1_), (4, 14, a1_, .int y2_)]) [1, 2, 3, 4, 5, 6, 7, 8, 9, 10, 11] rfl
                      exact ih58  y_33 w58_4_0_a1_ (bd_sub b_34 (by decide)) bw58_4_0_a1_ (by have h9_0 := b_34; unfold bd at h9_0; have h9_1 := bv58_7; unfold bd at h9_1; have h9_2 := bw58_4_0_a1_; unfold bd at h9_2; have h9_3 := kb_0; unfold bd at h9_3; have h9_4 := kb_1; unfold bd at h9_4; have h9_5 := kb_2; unfold bd at h9_5; have h9_6 := kb_8; unfold bd at h9_6; have h9_7 := kb_m1; unfold bd at h9_7; omega) _ _ _ _ g9 hG58_c_q1_ hl9
                    · have fc_32 := eq_f c_32
                      have b_35 : bd 2 2 x_31 := eqX fc_32 (bdT x_31) kb_2 (by decide)
                      refine lv_aload_n hx hb dX10_askGives_79 rfl (lv_at hl 4 rfl) ?_
                      refine lv_aload_n hx hb dX10_askGives_80 rfl (lv_at hl 5 rfl) ?_
                      refine lv_iload hx hb dX10_askGives_81 (lv_at hl 0 rfl) ?_
                      refine lv_iload_n hx hb dX10_askGives_83 rfl (lv_at hl 6 rfl) ?_
                      have go_ := g
                      refine g_calli (va_runV (As := [.ref a1_, .int v58_7, .int x2_]) (rest := []) ⟨hx, hb, hml, hown, hts⟩ (r_X10_holds_8 l dC dI L kd tys f H.size g.2.2.2.1 a0_ ma0_ ka0_ a1_ ma1_ ka1_ v58_7 b_28 x2_ bx2_ q0_ mq0_ kq0_ q1_ mq1_ kq1_ q2_ mq2_ kq2_ x_4 b_6 w58_4_0_a1_ bw58_4_0_a1_ y0_ by0_ y1_ by1_ y2_ by2_ hG58_c_q1_ (g.fcts [6, 7, 8, 4, 5, 9, 10, 11] rfl)) (cwV 3 hts (gV_ t_1547 t_1549 t_57 t_194 t_1550) rfl rfl rfl (by decide +kernel) ⟨(Nat.le_of_ble_eq_true rfl), (Nat.le_of_ble_eq_true rfl)⟩) (pre3V g hK ma0_ ka0_ (by decide) (q := (RX10, TX10, 10)) rfl) rfl rfl hl.1 rfl (lv_room (Nat.le_of_ble_eq_true rfl)) dX10_askGives_84 ⟨(Nat.le_of_ble_eq_true rfl), (Nat.le_of_ble_eq_true rfl)⟩) g hK (by decide) (by decide) (fx' := [(7, 7, a_17, .ref a_30), (6, 11, a_19, .int x_20), (7, 2, a_17, .ref a_18), (10, 0, a0_, .ref a_17), (4, 15, a1_, .int x_4), (10, 1, a0_, .ref q0_), (1, 0, q0_, .ref q1_), (1, 1, q0_, .ref q2_), (7, 1, q1_, .int y0_), (4, 6, a1_, .int y1_), (4, 14, a1_, .int y2_)]) rfl (fun r_36 fr_36 H locs hp hMr_36 g => ?_)
                      rcases hp with ⟨h_37, hF_38⟩ | ⟨h_39, x_40, h_41, x_42, h_43, hF_44⟩
                      · have hG_45 := cOK.frame hMr_36 go_.2.2.2.1 mq1_ kq1_ (by decide) (by decide) hG58_c_q1_
                        obtain rfl : r_36 = 0 := h_37
                        have g := g.more hF_38
                        refine lv_if_ne (tgt := 113) hx hb dX10_askGives_87 (by decide) (fun c_ => absurd c_ (by decide)) (fun c_ => ?_)
                        refine lv_aload_n hx hb dX10_askGives_90 rfl (lv_at hl 5 rfl) ?_
                        refine lv_aload_n hx hb dX10_askGives_91 rfl (lv_at hl 5 rfl) ?_
                        refine g_geti (C := RX4) (T := TX4) (N := 17) hx hb hts (mc_ inX4) hown hK g ma1_ ka1_ (by decide) rfl 0 (by decide) rfl (hts _ (List.mem_cons_of_mem _ t_837)) (fun _ h9 => h9) rfl dX10_askGives_92 (fun x_46 bx_46 g => ?_)
                        refine lv_if_ne (tgt := 102) hx hb dX10_askGives_95 (by decide) (fun c_47 => ?_) (fun c_47 => ?_)
                        · have fc_47 := neq_f c_47
                          refine lv_aload_n hx hb dX10_askGives_102 rfl (lv_at hl 5 rfl) ?_
                          refine g_getk (C := RX4) (T := TX4) (N := 17) hx hb hts (mc_ inX4) hown hK g rfl 0 (by decide) rfl (hts _ (List.mem_cons_of_mem _ t_837)) (fun _ h9 => h9) 0 rfl dX10_askGives_103 ?_
                          refine lv_iload hx hb dX10_askGives_106 (lv_at hl 0 rfl) ?_
                          refine lv_iload_n hx hb dX10_askGives_108 rfl (lv_at hl 6 rfl) ?_
                          have go_ := g
                          refine g_callv (va_runV (As := [.int x_46, .int v58_7, .int x2_]) (rest := []) ⟨hx, hb, hml, hown, hts⟩ (r_X4_breakBy l dC dI L kd tys fr_36 H.size g.2.2.2.1 a1_ ma1_ ka1_ x_46 v58_7 x2_) (cwV 3 hts (gV_ t_1606 t_1607 t_1608 t_197 t_1609) rfl rfl rfl (by decide +kernel) ⟨(Nat.le_of_ble_eq_true rfl), (Nat.le_of_ble_eq_true rfl)⟩) (pre3V g hK ma1_ ka1_ (by decide) (q := (RX4, TX4, 17)) rfl) rfl rfl hl.1 rfl (lv_room (Nat.le_of_ble_eq_true rfl)) dX10_askGives_109 ⟨(Nat.le_of_ble_eq_true rfl), (Nat.le_of_ble_eq_true rfl)⟩) g hK (by decide) (by decide) (fx' := [(1, 12, q0_, .int 0), (1, 5, q0_, .int 1), (7, 7, a_17, .ref a_30), (6, 11, a_19, .int x_20), (7, 2, a_17, .ref a_18), (10, 0, a0_, .ref a_17), (4, 15, a1_, .int x_4), (10, 1, a0_, .ref q0_), (1, 0, q0_, .ref q1_), (1, 1, q0_, .ref q2_), (7, 1, q1_, .int y0_), (4, 6, a1_, .int y1_), (4, 14, a1_, .int y2_)]) rfl (fun fr_48 H locs hp hMr_48 g => ?_)
                          have hG_49 := cOK.frame hMr_48 go_.2.2.2.1 mq1_ kq1_ (by decide) (by decide) hG_45
                          subst hQ
                          exact W.vret hx hb hr (fun t ht hW => ⟨⟨_, rfl, trivial, q3_of g hK ht hW⟩, g.2.2.1.F ht⟩) g.2.2.1.2.2 dX10_askGives_112
                        · have fc_47 := eq_f c_47
                          have b_50 : bd 0 0 x_46 := eqX fc_47 (bdT x_46) kb_0 (by decide)
                          refine lv_iconst (v := 1) hx hb dX10_askGives_98 (by decide) ?_
                          refine lv_goto (tgt := 106) hx hb dX10_askGives_99 (by decide) ?_
                          refine lv_iload hx hb dX10_askGives_106 (lv_at hl 0 rfl) ?_
                          refine lv_iload_n hx hb dX10_askGives_108 rfl (lv_at hl 6 rfl) ?_
                          have go_ := g
                          refine g_callv (va_runV (As := [.int 1, .int v58_7, .int x2_]) (rest := []) ⟨hx, hb, hml, hown, hts⟩ (r_X4_breakBy l dC dI L kd tys fr_36 H.size g.2.2.2.1 a1_ ma1_ ka1_ 1 v58_7 x2_) (cwV 3 hts (gV_ t_1606 t_1607 t_1608 t_197 t_1609) rfl rfl rfl (by decide +kernel) ⟨(Nat.le_of_ble_eq_true rfl), (Nat.le_of_ble_eq_true rfl)⟩) (pre3V g hK ma1_ ka1_ (by decide) (q := (RX4, TX4, 17)) rfl) rfl rfl hl.1 rfl (lv_room (Nat.le_of_ble_eq_true rfl)) dX10_askGives_109 ⟨(Nat.le_of_ble_eq_true rfl), (Nat.le_of_ble_eq_true rfl)⟩) g hK (by decide) (by decide) (fx' := [(1, 12, q0_, .int 0), (1, 5, q0_, .int 1), (7, 7, a_17, .ref a_30), (6, 11, a_19, .int x_20), (7, 2, a_17, .ref a_18), (10, 0, a0_, .ref a_17), (4, 15, a1_, .int x_4), (10, 1, a0_, .ref q0_), (1, 0, q0_, .ref q1_), (1, 1, q0_, .ref q2_), (7, 1, q1_, .int y0_), (4, 6, a1_, .int y1_), (4, 14, a1_, .int y2_)]) rfl (fun fr_51 H locs hp hMr_51 g => ?_)
                          have hG_52 := cOK.frame hMr_51 go_.2.2.2.1 mq1_ kq1_ (by decide) (by decide) hG_45
                          subst hQ
                          exact W.vret hx hb hr (fun t ht hW => ⟨⟨_, rfl, trivial, q3_of g hK ht hW⟩, g.2.2.1.F ht⟩) g.2.2.1.2.2 dX10_askGives_112
                      · have hG_53 := cOK.frame hMr_36 go_.2.2.2.1 mq1_ kq1_ (by decide) (by decide) hG58_c_q1_
                        obtain rfl : r_36 = 1 := h_39
                        have g := g.more hF_44
                        refine lv_if_ne (tgt := 113) hx hb dX10_askGives_87 (by decide) (fun c_ => ?_) (fun c_ => absurd c_ (by decide))
                        obtain ⟨y_54, ey_54⟩ : ∃ z : Int32, z = v58_7 + 1 := ⟨_, rfl⟩
                        refine lv_iinc (v := y_54) (lv' := [(7, .int y_54), (6, .int r_14), (5, .int v22_5), (4, .int v22_4), (0, .ref a0_), (1, .ref a1_), (2, .int x2_), (3, .int x3_)]) hx hb dX10_askGives_113 hl (k := 0) rfl (by rw [ey_54]; rfl) (by decide) rfl (fun ls hl => ?_)
                        have ty_54 := add_bd ey_54 b_28 kb_1 (by decide)
                        have b_55 : bd 1 500 y_54 := add_rg ty_54 b_28 kb_1 (by decide)
                        refine lv_goto (tgt := 58) hx hb dX10_askGives_116 (by decide) ?_
                        have hl9 := lv_sub hl [0, 1, 2, 3, 4, 5, 6, 7] (by rfl : lv_pick [(7, .int y_54), (6, .int r_14), (5, .int v22_5), (4, .int v22_4), (0, .ref a0_), (1, .ref a1_), (2, .int x2_), (3, .int x3_)] [0, 1, 2, 3, 4, 5, 6, 7] = [(7, .int y_54), (6, .int r_14), (5, .int v22_5), (4, .int v22_4), (0, .ref a0_), (1, .ref a1_), (2, .int x2_), (3, .int x3_)])
                        have g9 := g.sub (fx' := [(6, 11, a_19, .int x_20), (7, 2, a_17, .ref a_18), (10, 0, a0_, .ref a_17), (4, 15, a1_, .int x_4), (4, 0, a1_, .int x_42), (10, 1, a0_, .ref q0_), (1, 0, q0_, .ref q1_), (1, 1, q0_, .ref q2_), (7, 1, q1_, .int y0_), (4, 6, a1_, .int y1_), (4, 14, a1_, .int y2_)]) [5, 6, 7, 8, 3, 9, 10, 11, 12, 13, 14] rfl
                        exact ih58  y_54 x_42 (bd_sub b_55 (by decide)) h_43 (by have h9_0 := b_55; unfold bd at h9_0; have h9_1 := bv58_7; unfold bd at h9_1; have h9_2 := bw58_4_0_a1_; unfold bd at h9_2; have h9_3 := h_43; unfold bd at h9_3; have h9_4 := kb_0; unfold bd at h9_4; have h9_5 := kb_1; unfold bd at h9_5; have h9_6 := kb_2; unfold bd at h9_6; have h9_7 := kb_8; unfold bd at h9_7; have h9_8 := kb_m1; unfold bd at h9_8; omega) _ _ _ _ g9 hG_53 hl9
              have hl9 := lv_sub hl [0, 1, 2, 3, 4, 5, 6, 7] (by rfl : lv_pick [(7, .int x_20), (6, .int r_14), (5, .int v22_5), (4, .int v22_4), (0, .ref a0_), (1, .ref a1_), (2, .int x2_), (3, .int x3_)] [0, 1, 2, 3, 4, 5, 6, 7] = [(7, .int x_20), (6, .int r_14), (5, .int v22_5), (4, .int v22_4), (0, .ref a0_), (1, .ref a1_), (2, .int x2_), (3, .int x3_)])
              have g9 := g.sub (fx' := [(6, 11, a_19, .int x_20), (7, 2, a_17, .ref a_18), (10, 0, a0_, .ref a_17), (4, 15, a1_, .int x_4), (4, 0, a1_, .int w22_4_0_a1_), (10, 1, a0_, .ref q0_), (1, 0, q0_, .ref q1_), (1, 1, q0_, .ref q2_), (7, 1, q1_, .int y0_), (4, 6, a1_, .int y1_), (4, 14, a1_, .int y2_)]) [0, 1, 2, 3, 4, 5, 6, 7, 8, 9, 10] rfl
              exact loop_21 (1003) x_20 w22_4_0_a1_ bx_20 bw22_4_0_a1_ (by have h9_0 := bw22_4_0_a1_; unfold bd at h9_0; have h9_1 := bx_20; unfold bd at h9_1; have h9_2 := kb_0; unfold bd at h9_2; have h9_3 := kb_1; unfold bd at h9_3; have h9_4 := kb_8; unfold bd at h9_4; have h9_5 := kb_m1; unfold bd at h9_5; omega) _ _ _ _ g9 hG_16 hl9
      have hl9 := lv_sub hl [0, 1, 2, 3, 4, 5] (by rfl : lv_pick [(5, .int 0), (4, .int x3_), (0, .ref a0_), (1, .ref a1_), (2, .int x2_), (3, .int x3_)] [0, 1, 2, 3, 4, 5] = [(5, .int 0), (4, .int x3_), (0, .ref a0_), (1, .ref a1_), (2, .int x2_), (3, .int x3_)])
      have g9 := g.sub (fx' := [(4, 15, a1_, .int x_4), (4, 0, a1_, .int x_1), (10, 1, a0_, .ref q0_), (1, 0, q0_, .ref q1_), (1, 1, q0_, .ref q2_), (7, 1, q1_, .int y0_), (4, 6, a1_, .int y1_), (4, 14, a1_, .int y2_)]) [0, 1, 2, 3, 4, 5, 6, 7] rfl
      exact loop_7 (19) 0 x3_ x_1 (bd_sub kb_0 (by decide)) (bd_sub bx3_ (by decide)) b_3 (by have h9_0 := b_3; unfold bd at h9_0; have h9_1 := bx3_; unfold bd at h9_1; have h9_2 := kb_0; unfold bd at h9_2; have h9_3 := kb_1; unfold bd at h9_3; omega) _ _ _ _ g9 hGcq1_ hl9
    · have fc_5 := neq_f c_5
      subst hQ
      exact W.vret hx hb hr (fun t ht hW => ⟨⟨_, rfl, trivial, q3_of g hK ht hW⟩, g.2.2.1.F ht⟩) g.2.2.1.2.2 dX10_askGives_15
set_option maxHeartbeats 4000000 in
set_option maxRecDepth 100000 in
theorem r_X10_holds_10 (l : Launch) (dC : Nat → ClassId) (dI : Nat → Nat → Nat) (L : List Nat) (kd : Nat → Nat) (tys : List (ClassId × FieldType)) (f0 : Nat → va_E) (sz : Nat) (hWT : WT L kd tys f0) (a0_ : Nat) (ma0_ : a0_ ∈ L) (ka0_ : kd a0_ = 10) (a1_ : Nat) (ma1_ : a1_ ∈ L) (ka1_ : kd a1_ = 4) (x2_ : Int32) (bx2_ : bd 0 499 x2_) (x3_ : Int32) (bx3_ : bd 0 2 x3_) (q0_ : Nat) (mq0_ : q0_ ∈ L) (kq0_ : kd q0_ = 1) (q1_ : Nat) (mq1_ : q1_ ∈ L) (kq1_ : kd q1_ = 7) (q2_ : Nat) (mq2_ : q2_ ∈ L) (kq2_ : kd q2_ = 9) (y0_ : Int32) (by0_ : bd 1 500 y0_) (y1_ : Int32) (by1_ : bd 0 0 y1_) (y2_ : Int32) (by2_ : bd 1 8 y2_) (y3_ : Int32) (by3_ : bd 1 3 y3_) (y4_ : Int32) (by4_ : bd 0 9 y4_) (hGcq1_ : cOK f0 q1_) (hfx : Fs L kd f0 [(10, 1, a0_, .ref q0_), (1, 0, q0_, .ref q1_), (1, 1, q0_, .ref q2_), (7, 13, q1_, .int y0_), (4, 0, a1_, .int y1_), (7, 1, q1_, .int y2_), (4, 6, a1_, .int y3_), (4, 14, a1_, .int y4_)]) : Met l yX10_holds (.code yX10_holds cX10_holds 4 (some .boolean) :: lw_g) ({ frames := 2, cells := 0, slots := 0, locals := 50 }) (va_Pc [.ref a0_, .ref a1_, .int x2_, .int x3_] (P3 (dC, dI) L tys f0 sz)) (va_Qi (fun (r : Int32) (f : Nat → va_E) => (r = 0 ∧ Fs L kd f [(1, 12, q0_, .int 0), (1, 5, q0_, .int 1)]) ∨ (r = 1 ∧ ∃ z0_ : Int32, bd 1 1 z0_ ∧ ∃ z3_ : Int32, bd 0 0 z3_ ∧ Fs L kd f [(1, 15, q0_, .int z0_), (1, 12, q0_, .int 0), (1, 5, q0_, .int 1), (4, 0, a1_, .int z3_)])) (Q3 (dC, dI) L kd tys [(1, 5), (1, 6), (1, 8), (1, 11), (1, 12), (1, 13), (1, 14), (1, 15), (1, 16), (1, 17), (4, 0), (4, 1), (4, 2), (4, 5)] [100, 116, 117, 146] f0 sz) (pA L sz)) 0 0 (pA L sz) := by
  refine Met.ofW (cc := cX10_holds) (maxL := 4) (ret := (some .boolean)) (by decide) rfl ?_
  intro p e s m args below meth c s₁ B hml hv
  obtain ⟨rfl, hsz, hP, hK, hD0⟩ := hv
  have hx := B.exec
  have hb := B.bytes
  have hr := B.returns
  have hts := atoms_spec (ws := (.code yX10_holds cX10_holds 4 (some .boolean) :: lw_g)) B.pre
  have hown : s.vm.findClass RX10 = some m.cls := findClass_of_methodNamed B.named
  have hlocks := B.notSynchronized
  subst hsz
  have g : G3 (dC, dI) L kd tys s f0 [(1, 5), (1, 6), (1, 8), (1, 11), (1, 12), (1, 13), (1, 14), (1, 15), (1, 16), (1, 17), (4, 0), (4, 1), (4, 2), (4, 5)] [100, 116, 117, 146] f0 s.heap [] [(10, 1, a0_, .ref q0_), (1, 0, q0_, .ref q1_), (1, 1, q0_, .ref q2_), (7, 13, q1_, .int y0_), (4, 0, a1_, .int y1_), (7, 1, q1_, .int y2_), (4, 6, a1_, .int y3_), (4, 14, a1_, .int y4_)] := G3.start hP hD0 hWT hfx
  have hl := lv_entry ([.ref a0_, .ref a1_, .int x2_, .int x3_]) (n := 4) (Nat.le_of_ble_eq_true rfl)
  rw [lg_entry_eq]
  generalize (lg_sl ([.ref a0_, .ref a1_, .int x2_, .int x3_]) ++ List.replicate (4 - (lg_sl ([.ref a0_, .ref a1_, .int x2_, .int x3_])).length) Slot.unset).toArray = ls at hl ⊢
  have hl : lv_has ls 4 [(0, .ref a0_), (1, .ref a1_), (2, .int x2_), (3, .int x3_)] := hl
  refine W_q (fun Q hQ => ?_)
  refine lv_aload_n hx hb dX10_holds_0 rfl (lv_at hl 0 rfl) ?_
  refine g_getk (C := RX10) (T := TX10) (N := 10) hx hb hts (mc_ inX10) hown hK g rfl 1 (by decide) rfl (hts _ (List.mem_cons_of_mem _ t_913)) (fun _ h9 => h9) 0 rfl dX10_holds_1 ?_
  refine lv_aload_n hx hb dX10_holds_4 rfl (lv_at hl 0 rfl) ?_
  refine g_getr (K := 7) (C := RX10) (T := TX10) (N := 10) hx hb hts (mc_ inX10) hown hK g ma0_ ka0_ (by decide) rfl 0 (by decide) rfl (hts _ (List.mem_cons_of_mem _ t_912)) (fun _ h9 => h9) rfl dX10_holds_5 (fun a_1 ma_1 ka_1 g => ?_)
  refine g_getr (K := 141) (C := RX7) (T := TX7) (N := 19) hx hb hts (mc_ inX7) hown hK g ma_1 ka_1 (by decide) rfl 8 (by decide) rfl (hts _ (List.mem_cons_of_mem _ t_652)) (fun _ h9 => h9) rfl dX10_holds_8 (fun a_2 ma_2 ka_2 g => ?_)
  refine lv_iload_n hx hb dX10_holds_11 rfl (lv_at hl 2 rfl) ?_
  refine g_iald hx hb hK g ma_2 ka_2 (by decide) rfl (in_bd bx2_ (by decide)) dX10_holds_12 (fun x_3 bx_3 cx_3 => ?_)
  refine lv_aload_n hx hb dX10_holds_13 rfl (lv_at hl 1 rfl) ?_
  refine g_geti (C := RX4) (T := TX4) (N := 17) hx hb hts (mc_ inX4) hown hK g ma1_ ka1_ (by decide) rfl 16 (by decide) rfl (hts _ (List.mem_cons_of_mem _ t_876)) (fun _ h9 => h9) rfl dX10_holds_14 (fun x_4 bx_4 g => ?_)
  have go_ := g
  refine g_callv (va_runV (As := [.int x_3, .int x_4]) (rest := []) ⟨hx, hb, hml, hown, hts⟩ (r_X1_readyToAsk l dC dI L kd tys f0 s.heap.size g.2.2.2.1 q0_ mq0_ kq0_ x_3 x_4) (cwV 2 hts (gV_ t_1551 t_1552 t_1553 t_195 t_1554) rfl rfl rfl (by decide +kernel) ⟨(Nat.le_of_ble_eq_true rfl), (Nat.le_of_ble_eq_true rfl)⟩) (pre3V g hK mq0_ kq0_ (by decide) (q := (RX1, TX1, 18)) rfl) rfl rfl hl.1 rfl (lv_room (Nat.le_of_ble_eq_true rfl)) dX10_holds_17 ⟨(Nat.le_of_ble_eq_true rfl), (Nat.le_of_ble_eq_true rfl)⟩) g hK (by decide) (by decide) (fx' := [(4, 16, a1_, .int x_4), (7, 8, a_1, .ref a_2), (10, 0, a0_, .ref a_1), (10, 1, a0_, .ref q0_), (1, 0, q0_, .ref q1_), (1, 1, q0_, .ref q2_), (7, 13, q1_, .int y0_), (4, 0, a1_, .int y1_), (7, 1, q1_, .int y2_), (4, 6, a1_, .int y3_), (4, 14, a1_, .int y4_)]) rfl (fun fr_5 H locs hp hMr_5 g => ?_)
  have hF_6 := hp
  have hG_7 := cOK.frame hMr_5 go_.2.2.2.1 mq1_ kq1_ (by decide) (by decide) hGcq1_
  have g := g.more hF_6
  refine lv_aload_n hx hb dX10_holds_20 rfl (lv_at hl 0 rfl) ?_
  refine g_getk (C := RX10) (T := TX10) (N := 10) hx hb hts (mc_ inX10) hown hK g rfl 1 (by decide) rfl (hts _ (List.mem_cons_of_mem _ t_913)) (fun _ h9 => h9) 5 rfl dX10_holds_21 ?_
  have kb_0 : bd 0 0 (0 : Int32) := ⟨by decide, by decide⟩
  have kb_1 : bd 1 1 (1 : Int32) := ⟨by decide, by decide⟩
  have go_ := g
  refine g_callv (va_runV (As := []) (rest := []) ⟨hx, hb, hml, hown, hts⟩ (r_X1_go l dC dI L kd tys fr_5 H.size g.2.2.2.1 q0_ mq0_ kq0_ q1_ mq1_ kq1_ q2_ mq2_ kq2_ 0 kb_0 1 kb_1 y0_ by0_ y2_ by2_ hG_7 (g.fcts [6, 7, 0, 1, 8, 10] rfl)) (cwV 0 hts (gV_ t_1555 t_1556 t_1557 t_195 t_1558) rfl rfl rfl (by decide +kernel) ⟨(Nat.le_of_ble_eq_true rfl), (Nat.le_of_ble_eq_true rfl)⟩) (pre3V g hK mq0_ kq0_ (by decide) (q := (RX1, TX1, 18)) rfl) rfl rfl hl.1 rfl (lv_room (Nat.le_of_ble_eq_true rfl)) dX10_holds_24 ⟨(Nat.le_of_ble_eq_true rfl), (Nat.le_of_ble_eq_true rfl)⟩) g hK (by decide) (by decide) (fx' := [(1, 12, q0_, .int 0), (1, 5, q0_, .int 1), (4, 16, a1_, .int x_4), (7, 8, a_1, .ref a_2), (10, 0, a0_, .ref a_1), (10, 1, a0_, .ref q0_), (1, 0, q0_, .ref q1_), (1, 1, q0_, .ref q2_), (7, 13, q1_, .int y0_), (4, 0, a1_, .int y1_), (7, 1, q1_, .int y2_), (4, 6, a1_, .int y3_), (4, 14, a1_, .int y4_)]) rfl (fun fr_8 H locs hp hMr_8 g => ?_)
  have hG_9 := cOK.frame hMr_8 go_.2.2.2.1 mq1_ kq1_ (by decide) (by decide) hG_7
  refine lv_aload_n hx hb dX10_holds_27 rfl (lv_at hl 0 rfl) ?_
  refine g_getk (C := RX10) (T := TX10) (N := 10) hx hb hts (mc_ inX10) hown hK g rfl 1 (by decide) rfl (hts _ (List.mem_cons_of_mem _ t_913)) (fun _ h9 => h9) 5 rfl dX10_holds_28 ?_
  refine g_geti (C := RX1) (T := TX1) (N := 18) hx hb hts (mc_ inX1) hown hK g mq0_ kq0_ (by decide) rfl 15 (by decide) rfl (hts _ (List.mem_cons_of_mem _ t_751)) (fun _ h9 => h9) rfl dX10_holds_31 (fun x_10 bx_10 g => ?_)
  refine lv_iconst (v := 1) hx hb dX10_holds_34 (by decide) ?_
  refine lv_icmp_ne (tgt := 54) hx hb dX10_holds_35 (by decide) (fun c_11 => ?_) (fun c_11 => ?_)
  · have fc_11 := neq_f c_11
    refine lv_aload_n hx hb dX10_holds_54 rfl (lv_at hl 0 rfl) ?_
    refine g_getk (C := RX10) (T := TX10) (N := 10) hx hb hts (mc_ inX10) hown hK g rfl 1 (by decide) rfl (hts _ (List.mem_cons_of_mem _ t_913)) (fun _ h9 => h9) 6 rfl dX10_holds_55 ?_
    refine g_getk (C := RX1) (T := TX1) (N := 18) hx hb hts (mc_ inX1) hown hK g rfl 15 (by decide) rfl (hts _ (List.mem_cons_of_mem _ t_751)) (fun _ h9 => h9) 0 rfl dX10_holds_58 ?_
    refine lv_iconst (v := 2) hx hb dX10_holds_61 (by decide) ?_
    have kb_2 : bd 2 2 (2 : Int32) := ⟨by decide, by decide⟩
    refine lv_icmp_ne (tgt := 76) hx hb dX10_holds_62 (by decide) (fun c_12 => ?_) (fun c_12 => ?_)
    · have fc_12 := neq_f c_12
      refine lv_aload_n hx hb dX10_holds_76 rfl (lv_at hl 1 rfl) ?_
      refine lv_aload_n hx hb dX10_holds_77 rfl (lv_at hl 0 rfl) ?_
      refine g_getk (C := RX10) (T := TX10) (N := 10) hx hb hts (mc_ inX10) hown hK g rfl 1 (by decide) rfl (hts _ (List.mem_cons_of_mem _ t_913)) (fun _ h9 => h9) 6 rfl dX10_holds_78 ?_
      refine g_getk (C := RX1) (T := TX1) (N := 18) hx hb hts (mc_ inX1) hown hK g rfl 15 (by decide) rfl (hts _ (List.mem_cons_of_mem _ t_751)) (fun _ h9 => h9) 0 rfl dX10_holds_81 ?_
      refine lv_iconst (v := 4) hx hb dX10_holds_84 (by decide) ?_
      have kb_4 : bd 4 4 (4 : Int32) := ⟨by decide, by decide⟩
      refine lv_icmp_ne (tgt := 92) hx hb dX10_holds_85 (by decide) (fun c_13 => ?_) (fun c_13 => ?_)
      · have fc_13 := neq_f c_13
        refine lv_bipush (v := 7) hx hb dX10_holds_92 (by decide) ?_
        refine lv_iload_n hx hb dX10_holds_94 rfl (lv_at hl 2 rfl) ?_
        refine lv_iload_n hx hb dX10_holds_95 rfl (lv_at hl 3 rfl) ?_
        have go_ := g
        refine g_callv (va_runV (As := [.int 7, .int x2_, .int x3_]) (rest := []) ⟨hx, hb, hml, hown, hts⟩ (r_X4_breakBy l dC dI L kd tys fr_8 H.size g.2.2.2.1 a1_ ma1_ ka1_ 7 x2_ x3_) (cwV 3 hts (gV_ t_1606 t_1607 t_1608 t_197 t_1609) rfl rfl rfl (by decide +kernel) ⟨(Nat.le_of_ble_eq_true rfl), (Nat.le_of_ble_eq_true rfl)⟩) (pre3V g hK ma1_ ka1_ (by decide) (q := (RX4, TX4, 17)) rfl) rfl rfl hl.1 rfl (lv_room (Nat.le_of_ble_eq_true rfl)) dX10_holds_96 ⟨(Nat.le_of_ble_eq_true rfl), (Nat.le_of_ble_eq_true rfl)⟩) g hK (by decide) (by decide) (fx' := [(1, 15, q0_, .int x_10), (1, 12, q0_, .int 0), (1, 5, q0_, .int 1), (4, 16, a1_, .int x_4), (7, 8, a_1, .ref a_2), (10, 0, a0_, .ref a_1), (10, 1, a0_, .ref q0_), (1, 0, q0_, .ref q1_), (1, 1, q0_, .ref q2_), (7, 13, q1_, .int y0_), (7, 1, q1_, .int y2_), (4, 6, a1_, .int y3_), (4, 14, a1_, .int y4_)]) rfl (fun fr_14 H locs hp hMr_14 g => ?_)
        have hG_15 := cOK.frame hMr_14 go_.2.2.2.1 mq1_ kq1_ (by decide) (by decide) hG_9
        refine lv_iconst (v := 0) hx hb dX10_holds_99 (by decide) ?_
        subst hQ
        exact W.zret (v := 0) hx hb hr (nar_z (bd_sub kb_0 (by decide) : bd 0 1 _).1 (bd_sub kb_0 (by decide) : bd 0 1 _).2) (fun t ht hW => ⟨⟨_, _, rfl, Or.inl ⟨rfl, (g.fcts [1, 2] rfl)⟩, q3_of g hK ht hW⟩, g.2.2.1.F ht⟩) g.2.2.1.2.2 dX10_holds_100
      · have fc_13 := eq_f c_13
        have b_16 : bd 4 4 x_10 := eqX fc_13 (bdT x_10) kb_4 (by decide)
        refine lv_iconst (v := 5) hx hb dX10_holds_88 (by decide) ?_
        refine lv_goto (tgt := 94) hx hb dX10_holds_89 (by decide) ?_
        refine lv_iload_n hx hb dX10_holds_94 rfl (lv_at hl 2 rfl) ?_
        refine lv_iload_n hx hb dX10_holds_95 rfl (lv_at hl 3 rfl) ?_
        have go_ := g
        refine g_callv (va_runV (As := [.int 5, .int x2_, .int x3_]) (rest := []) ⟨hx, hb, hml, hown, hts⟩ (r_X4_breakBy l dC dI L kd tys fr_8 H.size g.2.2.2.1 a1_ ma1_ ka1_ 5 x2_ x3_) (cwV 3 hts (gV_ t_1606 t_1607 t_1608 t_197 t_1609) rfl rfl rfl (by decide +kernel) ⟨(Nat.le_of_ble_eq_true rfl), (Nat.le_of_ble_eq_true rfl)⟩) (pre3V g hK ma1_ ka1_ (by decide) (q := (RX4, TX4, 17)) rfl) rfl rfl hl.1 rfl (lv_room (Nat.le_of_ble_eq_true rfl)) dX10_holds_96 ⟨(Nat.le_of_ble_eq_true rfl), (Nat.le_of_ble_eq_true rfl)⟩) g hK (by decide) (by decide) (fx' := [(1, 15, q0_, .int x_10), (1, 12, q0_, .int 0), (1, 5, q0_, .int 1), (4, 16, a1_, .int x_4), (7, 8, a_1, .ref a_2), (10, 0, a0_, .ref a_1), (10, 1, a0_, .ref q0_), (1, 0, q0_, .ref q1_), (1, 1, q0_, .ref q2_), (7, 13, q1_, .int y0_), (7, 1, q1_, .int y2_), (4, 6, a1_, .int y3_), (4, 14, a1_, .int y4_)]) rfl (fun fr_17 H locs hp hMr_17 g => ?_)
        have hG_18 := cOK.frame hMr_17 go_.2.2.2.1 mq1_ kq1_ (by decide) (by decide) hG_9
        refine lv_iconst (v := 0) hx hb dX10_holds_99 (by decide) ?_
        subst hQ
        exact W.zret (v := 0) hx hb hr (nar_z (bd_sub kb_0 (by decide) : bd 0 1 _).1 (bd_sub kb_0 (by decide) : bd 0 1 _).2) (fun t ht hW => ⟨⟨_, _, rfl, Or.inl ⟨rfl, (g.fcts [1, 2] rfl)⟩, q3_of g hK ht hW⟩, g.2.2.1.F ht⟩) g.2.2.1.2.2 dX10_holds_100
    · have fc_12 := eq_f c_12
      have b_19 : bd 2 2 x_10 := eqX fc_12 (bdT x_10) kb_2 (by decide)
      refine lv_aload_n hx hb dX10_holds_65 rfl (lv_at hl 1 rfl) ?_
      refine lv_aload_n hx hb dX10_holds_66 rfl (lv_at hl 0 rfl) ?_
      refine g_getk (C := RX10) (T := TX10) (N := 10) hx hb hts (mc_ inX10) hown hK g rfl 1 (by decide) rfl (hts _ (List.mem_cons_of_mem _ t_913)) (fun _ h9 => h9) 6 rfl dX10_holds_67 ?_
      refine g_getl (C := RX1) (T := TX1) (N := 18) hx hb hts (mc_ inX1) hown hK g mq0_ kq0_ (by decide) rfl 17 (by decide) rfl (hts _ (List.mem_cons_of_mem _ t_755)) (fun _ h9 => h9) rfl dX10_holds_70 (fun x_20 g => ?_)
      have go_ := g
      refine g_put (C := RX4) (T := TX4) (N := 17) hx hb hts (mc_ inX4) tyX4 tyX4_ok nmX4 hown hK g ma1_ ka1_ (by decide) rfl 5 (by decide) (hts _ (List.mem_cons_of_mem _ t_848)) (fun _ h9 => h9) rfl rfl okV_l rfl rfl (by decide) (Or.inr (Or.inl (by decide))) (fx' := [(1, 17, q0_, .long x_20), (1, 15, q0_, .int x_10), (1, 12, q0_, .int 0), (1, 5, q0_, .int 1), (4, 16, a1_, .int x_4), (7, 8, a_1, .ref a_2), (10, 0, a0_, .ref a_1), (10, 1, a0_, .ref q0_), (1, 0, q0_, .ref q1_), (1, 1, q0_, .ref q2_), (7, 13, q1_, .int y0_), (4, 0, a1_, .int y1_), (7, 1, q1_, .int y2_), (4, 6, a1_, .int y3_), (4, 14, a1_, .int y4_)]) rfl dX10_holds_73 (fun f H locs hM_21 g => ?_)
      have hG_22 := cOK.frame hM_21 go_.2.2.2.1 mq1_ kq1_ (by decide) (by decide) hG_9
      refine lv_aload_n hx hb dX10_holds_76 rfl (lv_at hl 1 rfl) ?_
      refine lv_aload_n hx hb dX10_holds_77 rfl (lv_at hl 0 rfl) ?_
      refine g_getk (C := RX10) (T := TX10) (N := 10) hx hb hts (mc_ inX10) hown hK g rfl 1 (by decide) rfl (hts _ (List.mem_cons_of_mem _ t_913)) (fun _ h9 => h9) 8 rfl dX10_holds_78 ?_
      refine g_getk (C := RX1) (T := TX1) (N := 18) hx hb hts (mc_ inX1) hown hK g rfl 15 (by decide) rfl (hts _ (List.mem_cons_of_mem _ t_751)) (fun _ h9 => h9) 2 rfl dX10_holds_81 ?_
      refine lv_iconst (v := 4) hx hb dX10_holds_84 (by decide) ?_
      have kb_4 : bd 4 4 (4 : Int32) := ⟨by decide, by decide⟩
      refine lv_icmp_ne (tgt := 92) hx hb dX10_holds_85 (by decide) (fun c_23 => ?_) (fun c_23 => ?_)
      · have fc_23 := neq_f c_23
        refine lv_bipush (v := 7) hx hb dX10_holds_92 (by decide) ?_
        refine lv_iload_n hx hb dX10_holds_94 rfl (lv_at hl 2 rfl) ?_
        refine lv_iload_n hx hb dX10_holds_95 rfl (lv_at hl 3 rfl) ?_
        have go_ := g
        refine g_callv (va_runV (As := [.int 7, .int x2_, .int x3_]) (rest := []) ⟨hx, hb, hml, hown, hts⟩ (r_X4_breakBy l dC dI L kd tys f H.size g.2.2.2.1 a1_ ma1_ ka1_ 7 x2_ x3_) (cwV 3 hts (gV_ t_1606 t_1607 t_1608 t_197 t_1609) rfl rfl rfl (by decide +kernel) ⟨(Nat.le_of_ble_eq_true rfl), (Nat.le_of_ble_eq_true rfl)⟩) (pre3V g hK ma1_ ka1_ (by decide) (q := (RX4, TX4, 17)) rfl) rfl rfl hl.1 rfl (lv_room (Nat.le_of_ble_eq_true rfl)) dX10_holds_96 ⟨(Nat.le_of_ble_eq_true rfl), (Nat.le_of_ble_eq_true rfl)⟩) g hK (by decide) (by decide) (fx' := [(4, 5, a1_, .long x_20), (1, 17, q0_, .long x_20), (1, 15, q0_, .int x_10), (1, 12, q0_, .int 0), (1, 5, q0_, .int 1), (4, 16, a1_, .int x_4), (7, 8, a_1, .ref a_2), (10, 0, a0_, .ref a_1), (10, 1, a0_, .ref q0_), (1, 0, q0_, .ref q1_), (1, 1, q0_, .ref q2_), (7, 13, q1_, .int y0_), (7, 1, q1_, .int y2_), (4, 6, a1_, .int y3_), (4, 14, a1_, .int y4_)]) rfl (fun fr_24 H locs hp hMr_24 g => ?_)
        have hG_25 := cOK.frame hMr_24 go_.2.2.2.1 mq1_ kq1_ (by decide) (by decide) hG_22
        refine lv_iconst (v := 0) hx hb dX10_holds_99 (by decide) ?_
        subst hQ
        exact W.zret (v := 0) hx hb hr (nar_z (bd_sub kb_0 (by decide) : bd 0 1 _).1 (bd_sub kb_0 (by decide) : bd 0 1 _).2) (fun t ht hW => ⟨⟨_, _, rfl, Or.inl ⟨rfl, (g.fcts [3, 4] rfl)⟩, q3_of g hK ht hW⟩, g.2.2.1.F ht⟩) g.2.2.1.2.2 dX10_holds_100
      · have fc_23 := eq_f c_23
        have b_26 : bd 4 2 x_10 := eqX fc_23 b_19 kb_4 (by decide)
        exact bd_no b_26 (by decide)
  · have fc_11 := eq_f c_11
    have b_27 : bd 1 1 x_10 := eqX fc_11 (bdT x_10) kb_1 (by decide)
    refine lv_aload_n hx hb dX10_holds_38 rfl (lv_at hl 0 rfl) ?_
    refine g_getk (C := RX10) (T := TX10) (N := 10) hx hb hts (mc_ inX10) hown hK g rfl 1 (by decide) rfl (hts _ (List.mem_cons_of_mem _ t_913)) (fun _ h9 => h9) 6 rfl dX10_holds_39 ?_
    refine g_geti (C := RX1) (T := TX1) (N := 18) hx hb hts (mc_ inX1) hown hK g mq0_ kq0_ (by decide) rfl 16 (by decide) rfl (hts _ (List.mem_cons_of_mem _ t_753)) (fun _ h9 => h9) rfl dX10_holds_42 (fun x_28 bx_28 g => ?_)
    refine lv_if_eq (tgt := 52) hx hb dX10_holds_45 (by decide) (fun c_29 => ?_) (fun c_29 => ?_)
    · have fc_29 := eq_f c_29
      have b_30 : bd 0 0 x_28 := eqX fc_29 (bdT x_28) kb_0 (by decide)
      refine lv_iconst (v := 0) hx hb dX10_holds_52 (by decide) ?_
      subst hQ
      exact W.zret (v := 0) hx hb hr (nar_z (bd_sub kb_0 (by decide) : bd 0 1 _).1 (bd_sub kb_0 (by decide) : bd 0 1 _).2) (fun t ht hW => ⟨⟨_, _, rfl, Or.inl ⟨rfl, (g.fcts [2, 3] rfl)⟩, q3_of g hK ht hW⟩, g.2.2.1.F ht⟩) g.2.2.1.2.2 dX10_holds_53
    · have fc_29 := neq_f c_29
      refine lv_iconst (v := 1) hx hb dX10_holds_48 (by decide) ?_
      refine lv_goto (tgt := 53) hx hb dX10_holds_49 (by decide) ?_
      subst hQ
      exact W.zret (v := 1) hx hb hr (nar_z (bd_sub kb_1 (by decide) : bd 0 1 _).1 (bd_sub kb_1 (by decide) : bd 0 1 _).2) (fun t ht hW => ⟨⟨_, _, rfl, Or.inr (⟨rfl, x_10, b_27, y1_, by1_, (g.fcts [1, 2, 3, 11] rfl)⟩), q3_of g hK ht hW⟩, g.2.2.1.F ht⟩) g.2.2.1.2.2 dX10_holds_53
set_option maxHeartbeats 4000000 in
set_option maxRecDepth 100000 in
theorem r_X10_askKept_4 (l : Launch) (dC : Nat → ClassId) (dI : Nat → Nat → Nat) (L : List Nat) (kd : Nat → Nat) (tys : List (ClassId × FieldType)) (f0 : Nat → va_E) (sz : Nat) (hWT : WT L kd tys f0) (a0_ : Nat) (ma0_ : a0_ ∈ L) (ka0_ : kd a0_ = 10) (a1_ : Nat) (ma1_ : a1_ ∈ L) (ka1_ : kd a1_ = 4) (x2_ : Int32) (bx2_ : bd 0 2 x2_) (q0_ : Nat) (mq0_ : q0_ ∈ L) (kq0_ : kd q0_ = 7) (q1_ : Nat) (mq1_ : q1_ ∈ L) (kq1_ : kd q1_ = 1) (y0_ : Int32) (by0_ : bd 1 8 y0_) (y1_ : Int32) (by1_ : bd 1 3 y1_) (y2_ : Int32) (by2_ : bd 0 9 y2_) (hGcq0_ : cOK f0 q0_) (hfx : Fs L kd f0 [(10, 0, a0_, .ref q0_), (10, 1, a0_, .ref q1_), (7, 1, q0_, .int y0_), (4, 6, a1_, .int y1_), (4, 14, a1_, .int y2_)]) : Met l yX10_askKept (.code yX10_askKept cX10_askKept 8 none :: lw_g) ({ frames := 3, cells := 0, slots := 0, locals := 73 }) (va_Pc [.ref a0_, .ref a1_, .int x2_] (P3 (dC, dI) L tys f0 sz)) (va_Qv (fun (f : Nat → va_E) => (True)) (Q3 (dC, dI) L kd tys [(1, 0), (1, 1), (1, 2), (1, 3), (1, 4), (1, 5), (1, 6), (1, 8), (1, 11), (1, 12), (1, 13), (1, 14), (1, 15), (1, 16), (1, 17), (4, 0), (4, 1), (4, 2), (4, 5)] [100, 116, 117, 146] f0 sz) (pA L sz)) 0 0 (pA L sz) := by
  refine Met.ofW (cc := cX10_askKept) (maxL := 8) (ret := none) (by decide) rfl ?_
  intro p e s m args below meth c s₁ B hml hv
  obtain ⟨rfl, hsz, hP, hK, hD0⟩ := hv
  have hx := B.exec
  have hb := B.bytes
  have hr := B.returns
  have hts := atoms_spec (ws := (.code yX10_askKept cX10_askKept 8 none :: lw_g)) B.pre
  have hown : s.vm.findClass RX10 = some m.cls := findClass_of_methodNamed B.named
  have hlocks := B.notSynchronized
  subst hsz
  have g : G3 (dC, dI) L kd tys s f0 [(1, 0), (1, 1), (1, 2), (1, 3), (1, 4), (1, 5), (1, 6), (1, 8), (1, 11), (1, 12), (1, 13), (1, 14), (1, 15), (1, 16), (1, 17), (4, 0), (4, 1), (4, 2), (4, 5)] [100, 116, 117, 146] f0 s.heap [] [(10, 0, a0_, .ref q0_), (10, 1, a0_, .ref q1_), (7, 1, q0_, .int y0_), (4, 6, a1_, .int y1_), (4, 14, a1_, .int y2_)] := G3.start hP hD0 hWT hfx
  have hl := lv_entry ([.ref a0_, .ref a1_, .int x2_]) (n := 8) (Nat.le_of_ble_eq_true rfl)
  rw [lg_entry_eq]
  generalize (lg_sl ([.ref a0_, .ref a1_, .int x2_]) ++ List.replicate (8 - (lg_sl ([.ref a0_, .ref a1_, .int x2_])).length) Slot.unset).toArray = ls at hl ⊢
  have hl : lv_has ls 8 [(0, .ref a0_), (1, .ref a1_), (2, .int x2_)] := hl
  refine W_q (fun Q hQ => ?_)
  refine lv_aload_n hx hb dX10_askKept_0 rfl (lv_at hl 1 rfl) ?_
  refine g_geti (C := RX4) (T := TX4) (N := 17) hx hb hts (mc_ inX4) hown hK g ma1_ ka1_ (by decide) rfl 0 (by decide) rfl (hts _ (List.mem_cons_of_mem _ t_837)) (fun _ h9 => h9) rfl dX10_askKept_1 (fun x_1 bx_1 g => ?_)
  have kb_0 : bd 0 0 (0 : Int32) := ⟨by decide, by decide⟩
  refine lv_if_eq (tgt := 8) hx hb dX10_askKept_4 (by decide) (fun c_2 => ?_) (fun c_2 => ?_)
  · have fc_2 := eq_f c_2
    have b_3 : bd 0 0 x_1 := eqX fc_2 (bdT x_1) kb_0 (by decide)
    refine lv_aload_n hx hb dX10_askKept_8 rfl (lv_at hl 1 rfl) ?_
    refine g_getr (K := 126) (C := RX4) (T := TX4) (N := 17) hx hb hts (mc_ inX4) hown hK g ma1_ ka1_ (by decide) rfl 7 (by decide) rfl (hts _ (List.mem_cons_of_mem _ t_854)) (fun _ h9 => h9) rfl dX10_askKept_9 (fun a_4 ma_4 ka_4 g => ?_)
    refine lv_iload_n hx hb dX10_askKept_12 rfl (lv_at hl 2 rfl) ?_
    refine g_iald hx hb hK g ma_4 ka_4 (by decide) rfl (in_bd bx2_ (by decide)) dX10_askKept_13 (fun x_5 bx_5 cx_5 => ?_)
    refine lv_istore_n (lv' := [(3, .int x_5), (0, .ref a0_), (1, .ref a1_), (2, .int x2_)]) hx hb dX10_askKept_14 rfl hl (by decide) rfl (fun ls hl => ?_)
    refine lv_aload_n hx hb dX10_askKept_15 rfl (lv_at hl 2 rfl) ?_
    refine g_getr (K := 128) (C := RX4) (T := TX4) (N := 17) hx hb hts (mc_ inX4) hown hK g ma1_ ka1_ (by decide) rfl 9 (by decide) rfl (hts _ (List.mem_cons_of_mem _ t_860)) (fun _ h9 => h9) rfl dX10_askKept_16 (fun a_6 ma_6 ka_6 g => ?_)
    refine lv_iload_n hx hb dX10_askKept_19 rfl (lv_at hl 3 rfl) ?_
    refine g_aald hx hb hK g ma_6 ka_6 (by decide) rfl (by decide) (in_bd bx2_ (by decide)) dX10_askKept_20 (fun a_7 ma_7 ua_7 wa_7 => ?_)
    have ka_7 : kd a_7 = 101 := by omega
    refine lv_astore (lv' := [(4, .ref a_7), (3, .int x_5), (0, .ref a0_), (1, .ref a1_), (2, .int x2_)]) hx hb dX10_askKept_21 hl (by decide) rfl (fun ls hl => ?_)
    refine lv_aload_n hx hb dX10_askKept_23 rfl (lv_at hl 2 rfl) ?_
    refine g_getk (C := RX10) (T := TX10) (N := 10) hx hb hts (mc_ inX10) hown hK g rfl 1 (by decide) rfl (hts _ (List.mem_cons_of_mem _ t_913)) (fun _ h9 => h9) 4 rfl dX10_askKept_24 ?_
    refine lv_aload_n hx hb dX10_askKept_27 rfl (lv_at hl 2 rfl) ?_
    refine g_getk (C := RX10) (T := TX10) (N := 10) hx hb hts (mc_ inX10) hown hK g rfl 0 (by decide) rfl (hts _ (List.mem_cons_of_mem _ t_912)) (fun _ h9 => h9) 3 rfl dX10_askKept_28 ?_
    refine lv_aload_n hx hb dX10_askKept_31 rfl (lv_at hl 2 rfl) ?_
    refine g_getk (C := RX10) (T := TX10) (N := 10) hx hb hts (mc_ inX10) hown hK g rfl 0 (by decide) rfl (hts _ (List.mem_cons_of_mem _ t_912)) (fun _ h9 => h9) 3 rfl dX10_askKept_32 ?_
    refine g_getr (K := 136) (C := RX7) (T := TX7) (N := 19) hx hb hts (mc_ inX7) hown hK g mq0_ kq0_ (by decide) rfl 0 (by decide) rfl (hts _ (List.mem_cons_of_mem _ t_624)) (fun _ h9 => h9) rfl dX10_askKept_35 (fun a_8 ma_8 ka_8 g => ?_)
    refine lv_iload_n hx hb dX10_askKept_38 rfl (lv_at hl 1 rfl) ?_
    refine g_aald hx hb hK g ma_8 ka_8 (by decide) rfl (by decide) (in_bd bx_5 (by decide)) dX10_askKept_39 (fun a_9 ma_9 ua_9 wa_9 => ?_)
    have ka_9 : kd a_9 = 9 := by omega
    refine lv_aload hx hb dX10_askKept_40 (lv_at hl 0 rfl) ?_
    refine lv_aload hx hb dX10_askKept_42 (lv_at hl 0 rfl) ?_
    refine lv_aload hx hb dX10_askKept_44 (lv_at hl 0 rfl) ?_
    have go_ := g
    refine g_callv (va_runV (As := [.ref q0_, .ref a_9, .ref a_7, .ref a_7, .ref a_7]) (rest := []) ⟨hx, hb, hml, hown, hts⟩ (r_X1_standOn l dC dI L kd tys f0 s.heap.size g.2.2.2.1 q1_ mq1_ kq1_ q0_ mq0_ kq0_ a_9 ma_9 ka_9 a_7 ma_7 ka_7 a_7 ma_7 ka_7 a_7 ma_7 ka_7) (cwV 5 hts (gV_ t_1543 t_1544 t_1545 t_195 t_1546) rfl rfl rfl (by decide +kernel) ⟨(Nat.le_of_ble_eq_true rfl), (Nat.le_of_ble_eq_true rfl)⟩) (pre3V g hK mq1_ kq1_ (by decide) (q := (RX1, TX1, 18)) rfl) rfl rfl hl.1 rfl (lv_room (Nat.le_of_ble_eq_true rfl)) dX10_askKept_46 ⟨(Nat.le_of_ble_eq_true rfl), (Nat.le_of_ble_eq_true rfl)⟩) g hK (by decide) (by decide) (fx' := [(7, 0, q0_, .ref a_8), (4, 9, a1_, .ref a_6), (4, 7, a1_, .ref a_4), (4, 0, a1_, .int x_1), (10, 0, a0_, .ref q0_), (10, 1, a0_, .ref q1_), (7, 1, q0_, .int y0_), (4, 6, a1_, .int y1_), (4, 14, a1_, .int y2_)]) rfl (fun fr_10 H locs hp hMr_10 g => ?_)
    have hF_11 := hp
    have hG_12 := cOK.frame hMr_10 go_.2.2.2.1 mq0_ kq0_ (by decide) (by decide) hGcq0_
    have g := g.more hF_11
    refine lv_iconst (v := 0) hx hb dX10_askKept_49 (by decide) ?_
    refine lv_istore (lv' := [(5, .int 0), (4, .ref a_7), (3, .int x_5), (0, .ref a0_), (1, .ref a1_), (2, .int x2_)]) hx hb dX10_askKept_50 hl (by decide) rfl (fun ls hl => ?_)
    have loop_13 : ∀ (n : Nat) (v52_5 : Int32) (v52_3 : Int32) (w52_4_0_a1_ : Int32), bd 0 8 v52_5 → bd 0 0 w52_4_0_a1_ → (8 - v52_5.toInt < (n : Int)) → ∀ (f : Nat → va_E) (H : Heap) (locs : List Loc) (ls : Array Slot), G3 (dC, dI) L kd tys s f0 [(1, 0), (1, 1), (1, 2), (1, 3), (1, 4), (1, 5), (1, 6), (1, 8), (1, 11), (1, 12), (1, 13), (1, 14), (1, 15), (1, 16), (1, 17), (4, 0), (4, 1), (4, 2), (4, 5)] [100, 116, 117, 146] f H locs [(1, 4, q1_, .ref a_7), (1, 3, q1_, .ref a_7), (1, 2, q1_, .ref a_7), (1, 1, q1_, .ref a_9), (1, 0, q1_, .ref q0_), (7, 0, q0_, .ref a_8), (4, 9, a1_, .ref a_6), (4, 7, a1_, .ref a_4), (4, 0, a1_, .int w52_4_0_a1_), (10, 0, a0_, .ref q0_), (10, 1, a0_, .ref q1_), (7, 1, q0_, .int y0_), (4, 6, a1_, .int y1_), (4, 14, a1_, .int y2_)] → cOK f q0_ → lv_has ls 8 [(5, .int v52_5), (4, .ref a_7), (3, .int v52_3), (0, .ref a0_), (1, .ref a1_), (2, .int x2_)] → W p l e ({ frames := 3, cells := 0, slots := 0, locals := 73 } : Room) s m [.ref a0_, .ref a1_, .int x2_].toArray below meth c H locs 0 0 Q (F0 m 52 ls []) := by
      intro n52
      induction n52 with
      | zero =>
        intro v52_5 v52_3 w52_4_0_a1_ bv52_5  bw52_4_0_a1_ hm52 f H locs ls g hG52_c_q0_ hl
        exact absurd hm52 (by have h9_v52_5 := bv52_5; unfold bd at h9_v52_5; have h9_v52_3 := bdT v52_3; unfold bd at h9_v52_3; have h9_w52_4_0_a1_ := bw52_4_0_a1_; unfold bd at h9_w52_4_0_a1_; omega)
      | succ n52 ih52 =>
        intro v52_5 v52_3 w52_4_0_a1_ bv52_5  bw52_4_0_a1_ hm52 f H locs ls g hG52_c_q0_ hl
        refine lv_iload hx hb dX10_askKept_52 (lv_at hl 0 rfl) ?_
        refine lv_bipush (v := 8) hx hb dX10_askKept_54 (by decide) ?_
        have kb_8 : bd 8 8 (8 : Int32) := ⟨by decide, by decide⟩
        refine lv_icmp_ge (tgt := 168) hx hb dX10_askKept_56 (by decide) (fun c_14 => ?_) (fun c_14 => ?_)
        · have fc_14 := le_f c_14
          have b_15 : bd 8 8 v52_5 := leR fc_14 kb_8 bv52_5 (by decide)
          subst hQ
          exact W.vret hx hb hr (fun t ht hW => ⟨⟨_, rfl, trivial, q3_of g hK ht hW⟩, g.2.2.1.F ht⟩) g.2.2.1.2.2 dX10_askKept_168
        · have fc_14 := nle_f c_14
          have b_16 : bd 0 7 v52_5 := ltL fc_14 bv52_5 kb_8 (by decide)
          refine lv_aload_n hx hb dX10_askKept_59 rfl (lv_at hl 3 rfl) ?_
          refine g_getk (C := RX10) (T := TX10) (N := 10) hx hb hts (mc_ inX10) hown hK g rfl 0 (by decide) rfl (hts _ (List.mem_cons_of_mem _ t_912)) (fun _ h9 => h9) 9 rfl dX10_askKept_60 ?_
          refine lv_iload_n hx hb dX10_askKept_63 rfl (lv_at hl 2 rfl) ?_
          have go_ := g
          refine g_calli (va_runV (As := [.int v52_3]) (rest := []) ⟨hx, hb, hml, hown, hts⟩ (r_X7_hasClass l dC dI L kd tys f H.size g.2.2.2.1 q0_ mq0_ kq0_ v52_3) (cwV 1 hts (gV_ t_1534 t_1281 t_1282 t_191 t_1283) rfl rfl rfl (by decide +kernel) ⟨(Nat.le_of_ble_eq_true rfl), (Nat.le_of_ble_eq_true rfl)⟩) (pre3V g hK mq0_ kq0_ (by decide) (q := (RX7, TX7, 19)) rfl) rfl rfl hl.1 rfl (lv_room (Nat.le_of_ble_eq_true rfl)) dX10_askKept_64 ⟨(Nat.le_of_ble_eq_true rfl), (Nat.le_of_ble_eq_true rfl)⟩) g hK (by decide) (by decide) (fx' := [(1, 4, q1_, .ref a_7), (1, 3, q1_, .ref a_7), (1, 2, q1_, .ref a_7), (1, 1, q1_, .ref a_9), (1, 0, q1_, .ref q0_), (7, 0, q0_, .ref a_8), (4, 9, a1_, .ref a_6), (4, 7, a1_, .ref a_4), (4, 0, a1_, .int w52_4_0_a1_), (10, 0, a0_, .ref q0_), (10, 1, a0_, .ref q1_), (7, 1, q0_, .int y0_), (4, 6, a1_, .int y1_), (4, 14, a1_, .int y2_)]) rfl (fun r_17 fr_17 H locs hp hMr_17 g => ?_)
          rcases hp with ⟨h_18, -⟩ | ⟨h_19, h_20, x_21, h_22, hF_23⟩
          · have hG_24 := cOK.frame hMr_17 go_.2.2.2.1 mq0_ kq0_ (by decide) (by decide) hG52_c_q0_
            obtain rfl : r_17 = 0 := h_18
            refine lv_if_eq (tgt := 168) hx hb dX10_askKept_67 (by decide) (fun c_ => ?_) (fun c_ => absurd (by decide) c_)
            subst hQ
            exact W.vret hx hb hr (fun t ht hW => ⟨⟨_, rfl, trivial, q3_of g hK ht hW⟩, g.2.2.1.F ht⟩) g.2.2.1.2.2 dX10_askKept_168
          · have hG_25 := cOK.frame hMr_17 go_.2.2.2.1 mq0_ kq0_ (by decide) (by decide) hG52_c_q0_
            obtain rfl : r_17 = 1 := h_19
            have b_26 : bd 0 7 v52_3 := eqX rfl (bdT v52_3) h_20 (by decide)
            have g := g.more hF_23
            have e_27 := fx_same g 12 0 rfl rfl
            have g := g.sub (fx' := [(1, 4, q1_, .ref a_7), (1, 3, q1_, .ref a_7), (1, 2, q1_, .ref a_7), (1, 1, q1_, .ref a_9), (1, 0, q1_, .ref q0_), (7, 0, q0_, .ref a_8), (4, 9, a1_, .ref a_6), (4, 7, a1_, .ref a_4), (4, 0, a1_, .int w52_4_0_a1_), (10, 0, a0_, .ref q0_), (10, 1, a0_, .ref q1_), (7, 1, q0_, .int y0_), (4, 6, a1_, .int y1_), (4, 14, a1_, .int y2_)]) [1, 2, 3, 4, 5, 6, 7, 8, 9, 10, 11, 12, 13, 14] rfl
            refine lv_if_eq (tgt := 168) hx hb dX10_askKept_67 (by decide) (fun c_ => absurd c_ (by decide)) (fun c_ => ?_)
            refine lv_aload_n hx hb dX10_askKept_70 rfl (lv_at hl 3 rfl) ?_
            refine g_getk (C := RX10) (T := TX10) (N := 10) hx hb hts (mc_ inX10) hown hK g rfl 0 (by decide) rfl (hts _ (List.mem_cons_of_mem _ t_912)) (fun _ h9 => h9) 9 rfl dX10_askKept_71 ?_
            refine g_getk (C := RX7) (T := TX7) (N := 19) hx hb hts (mc_ inX7) hown hK g rfl 0 (by decide) rfl (hts _ (List.mem_cons_of_mem _ t_624)) (fun _ h9 => h9) 5 rfl dX10_askKept_74 ?_
            refine lv_iload_n hx hb dX10_askKept_77 rfl (lv_at hl 2 rfl) ?_
            refine g_aald hx hb hK g ma_8 ka_8 (by decide) rfl (by decide) (in_bd b_26 (by decide)) dX10_askKept_78 (fun a_28 ma_28 ua_28 wa_28 => ?_)
            have ka_28 : kd a_28 = 9 := by omega
            refine lv_astore (lv' := [(6, .ref a_28), (5, .int v52_5), (4, .ref a_7), (3, .int v52_3), (0, .ref a0_), (1, .ref a1_), (2, .int x2_)]) hx hb dX10_askKept_79 hl (by decide) rfl (fun ls hl => ?_)
            refine lv_aload hx hb dX10_askKept_81 (lv_at hl 0 rfl) ?_
            refine g_geti (C := RX9) (T := TX9) (N := 13) hx hb hts (mc_ inX9) hown hK g ma_28 ka_28 (by decide) rfl 10 (by decide) rfl (hts _ (List.mem_cons_of_mem _ t_513)) (fun _ h9 => h9) rfl dX10_askKept_83 (fun x_29 bx_29 g => ?_)
            refine lv_istore (lv' := [(7, .int x_29), (6, .ref a_28), (5, .int v52_5), (4, .ref a_7), (3, .int v52_3), (0, .ref a0_), (1, .ref a1_), (2, .int x2_)]) hx hb dX10_askKept_86 hl (by decide) rfl (fun ls hl => ?_)
            have loop_30 : ∀ (n : Nat) (v88_7 : Int32) (w88_4_0_a1_ : Int32), bd 0 500 v88_7 → bd 0 0 w88_4_0_a1_ → (500 - v88_7.toInt < (n : Int)) → ∀ (f : Nat → va_E) (H : Heap) (locs : List Loc) (ls : Array Slot), G3 (dC, dI) L kd tys s f0 [(1, 0), (1, 1), (1, 2), (1, 3), (1, 4), (1, 5), (1, 6), (1, 8), (1, 11), (1, 12), (1, 13), (1, 14), (1, 15), (1, 16), (1, 17), (4, 0), (4, 1), (4, 2), (4, 5)] [100, 116, 117, 146] f H locs [(9, 10, a_28, .int x_29), (1, 4, q1_, .ref a_7), (1, 3, q1_, .ref a_7), (1, 2, q1_, .ref a_7), (1, 1, q1_, .ref a_9), (1, 0, q1_, .ref q0_), (7, 0, q0_, .ref a_8), (4, 9, a1_, .ref a_6), (4, 7, a1_, .ref a_4), (4, 0, a1_, .int w88_4_0_a1_), (10, 0, a0_, .ref q0_), (10, 1, a0_, .ref q1_), (7, 1, q0_, .int y0_), (4, 6, a1_, .int y1_), (4, 14, a1_, .int y2_)] → cOK f q0_ → lv_has ls 8 [(7, .int v88_7), (6, .ref a_28), (5, .int v52_5), (4, .ref a_7), (3, .int v52_3), (0, .ref a0_), (1, .ref a1_), (2, .int x2_)] → W p l e ({ frames := 3, cells := 0, slots := 0, locals := 73 } : Room) s m [.ref a0_, .ref a1_, .int x2_].toArray below meth c H locs 0 0 Q (F0 m 88 ls []) := by
              intro n88
              induction n88 with
              | zero =>
                intro v88_7 w88_4_0_a1_ bv88_7 bw88_4_0_a1_ hm88 f H locs ls g hG88_c_q0_ hl
                exact absurd hm88 (by have h9_v88_7 := bv88_7; unfold bd at h9_v88_7; have h9_w88_4_0_a1_ := bw88_4_0_a1_; unfold bd at h9_w88_4_0_a1_; omega)
              | succ n88 ih88 =>
                intro v88_7 w88_4_0_a1_ bv88_7 bw88_4_0_a1_ hm88 f H locs ls g hG88_c_q0_ hl
                refine lv_iload hx hb dX10_askKept_88 (lv_at hl 0 rfl) ?_
                refine lv_aload hx hb dX10_askKept_90 (lv_at hl 1 rfl) ?_
                refine g_getk (C := RX9) (T := TX9) (N := 13) hx hb hts (mc_ inX9) hown hK g rfl 10 (by decide) rfl (hts _ (List.mem_cons_of_mem _ t_513)) (fun _ h9 => h9) 0 rfl dX10_askKept_92 ?_
                refine lv_aload hx hb dX10_askKept_95 (lv_at hl 1 rfl) ?_
                refine g_geti (C := RX9) (T := TX9) (N := 13) hx hb hts (mc_ inX9) hown hK g ma_28 ka_28 (by decide) rfl 11 (by decide) rfl (hts _ (List.mem_cons_of_mem _ t_517)) (fun _ h9 => h9) rfl dX10_askKept_97 (fun x_31 bx_31 g => ?_)
                refine lv_iadd hx hb dX10_askKept_100 ?_
                refine lv_topi (fun y_32 ey_32 => ?_)
                refine lv_icmp_ge (tgt := 156) hx hb dX10_askKept_101 (by decide) (fun c_33 => ?_) (fun c_33 => ?_)
                · have fc_33 := le_f c_33
                  have b_34 : bd (-2147483648) 500 y_32 := leL fc_33 (bdT y_32) bv88_7 (by decide)
                  refine lv_aload hx hb dX10_askKept_156 (lv_at hl 1 rfl) ?_
                  refine g_geti (C := RX9) (T := TX9) (N := 13) hx hb hts (mc_ inX9) hown hK g ma_28 ka_28 (by decide) rfl 1 (by decide) rfl (hts _ (List.mem_cons_of_mem _ t_483)) (fun _ h9 => h9) rfl dX10_askKept_158 (fun x_35 bx_35 g => ?_)
                  refine lv_istore_n (lv' := [(3, .int x_35), (7, .int v88_7), (6, .ref a_28), (5, .int v52_5), (4, .ref a_7), (0, .ref a0_), (1, .ref a1_), (2, .int x2_)]) hx hb dX10_askKept_161 rfl hl (by decide) rfl (fun ls hl => ?_)
                  have kb_1 : bd 1 1 (1 : Int32) := ⟨by decide, by decide⟩
                  obtain ⟨y_36, ey_36⟩ : ∃ z : Int32, z = v52_5 + 1 := ⟨_, rfl⟩
                  refine lv_iinc (v := y_36) (lv' := [(5, .int y_36), (3, .int x_35), (7, .int v88_7), (6, .ref a_28), (4, .ref a_7), (0, .ref a0_), (1, .ref a1_), (2, .int x2_)]) hx hb dX10_askKept_162 hl (k := 3) rfl (by rw [ey_36]; rfl) (by decide) rfl (fun ls hl => ?_)
                  have ty_36 := add_bd ey_36 b_16 kb_1 (by decide)
                  have b_37 : bd 1 8 y_36 := add_rg ty_36 b_16 kb_1 (by decide)
                  refine lv_goto (tgt := 52) hx hb dX10_askKept_165 (by decide) ?_
                  have hl9 := lv_sub hl [0, 4, 1, 5, 6, 7] (by rfl : lv_pick [(5, .int y_36), (3, .int x_35), (7, .int v88_7), (6, .ref a_28), (4, .ref a_7), (0, .ref a0_), (1, .ref a1_), (2, .int x2_)] [0, 4, 1, 5, 6, 7] = [(5, .int y_36), (4, .ref a_7), (3, .int x_35), (0, .ref a0_), (1, .ref a1_), (2, .int x2_)])
                  have g9 := g.sub (fx' := [(1, 4, q1_, .ref a_7), (1, 3, q1_, .ref a_7), (1, 2, q1_, .ref a_7), (1, 1, q1_, .ref a_9), (1, 0, q1_, .ref q0_), (7, 0, q0_, .ref a_8), (4, 9, a1_, .ref a_6), (4, 7, a1_, .ref a_4), (4, 0, a1_, .int w88_4_0_a1_), (10, 0, a0_, .ref q0_), (10, 1, a0_, .ref q1_), (7, 1, q0_, .int y0_), (4, 6, a1_, .int y1_), (4, 14, a1_, .int y2_)]) [3, 4, 5, 6, 7, 8, 9, 10, 11, 12, 13, 14, 15, 16] rfl
                  exact ih52  y_36 x_35 w88_4_0_a1_ (bd_sub b_37 (by decide)) bw88_4_0_a1_ (by have h9_0 := b_37; unfold bd at h9_0; have h9_1 := bdT v52_3; unfold bd at h9_1; have h9_2 := bdT x_35; unfold bd at h9_2; have h9_3 := bv52_5; unfold bd at h9_3; have h9_4 := bw52_4_0_a1_; unfold bd at h9_4; have h9_5 := bw88_4_0_a1_; unfold bd at h9_5; have h9_6 := kb_0; unfold bd at h9_6; have h9_7 := kb_1; unfold bd at h9_7; have h9_8 := kb_8; unfold bd at h9_8; omega) _ _ _ _ g9 hG88_c_q0_ hl9
                · have fc_33 := nle_f c_33
                  have b_38 : bd 1 2147483647 y_32 := ltR fc_33 bv88_7 (bdT y_32) (by decide)
                  refine lv_iload hx hb dX10_askKept_104 (lv_at hl 0 rfl) ?_
                  refine lv_aload_n hx hb dX10_askKept_106 rfl (lv_at hl 5 rfl) ?_
                  refine g_getk (C := RX10) (T := TX10) (N := 10) hx hb hts (mc_ inX10) hown hK g rfl 0 (by decide) rfl (hts _ (List.mem_cons_of_mem _ t_912)) (fun _ h9 => h9) 11 rfl dX10_askKept_107 ?_
                  refine g_geti (C := RX7) (T := TX7) (N := 19) hx hb hts (mc_ inX7) hown hK g mq0_ kq0_ (by decide) rfl 13 (by decide) rfl (hts _ (List.mem_cons_of_mem _ t_670)) (fun _ h9 => h9) rfl dX10_askKept_110 (fun x_39 bx_39 g => ?_)
                  refine lv_icmp_ge (tgt := 156) hx hb dX10_askKept_113 (by decide) (fun c_40 => ?_) (fun c_40 => ?_)
                  · have fc_40 := le_f c_40
                    refine lv_aload hx hb dX10_askKept_156 (lv_at hl 1 rfl) ?_
                    refine g_geti (C := RX9) (T := TX9) (N := 13) hx hb hts (mc_ inX9) hown hK g ma_28 ka_28 (by decide) rfl 1 (by decide) rfl (hts _ (List.mem_cons_of_mem _ t_483)) (fun _ h9 => h9) rfl dX10_askKept_158 (fun x_41 bx_41 g => ?_)
                    refine lv_istore_n (lv' := [(3, .int x_41), (7, .int v88_7), (6, .ref a_28), (5, .int v52_5), (4, .ref a_7), (0, .ref a0_), (1, .ref a1_), (2, .int x2_)]) hx hb dX10_askKept_161 rfl hl (by decide) rfl (fun ls hl => ?_)
                    have kb_1 : bd 1 1 (1 : Int32) := ⟨by decide, by decide⟩
                    obtain ⟨y_42, ey_42⟩ : ∃ z : Int32, z = v52_5 + 1 := ⟨_, rfl⟩
                    refine lv_iinc (v := y_42) (lv' := [(5, .int y_42), (3, .int x_41), (7, .int v88_7), (6, .ref a_28), (4, .ref a_7), (0, .ref a0_), (1, .ref a1_), (2, .int x2_)]) hx hb dX10_askKept_162 hl (k := 3) rfl (by rw [ey_42]; rfl) (by decide) rfl (fun ls hl => ?_)
                    have ty_42 := add_bd ey_42 b_16 kb_1 (by decide)
                    have b_43 : bd 1 8 y_42 := add_rg ty_42 b_16 kb_1 (by decide)
                    refine lv_goto (tgt := 52) hx hb dX10_askKept_165 (by decide) ?_
                    have hl9 := lv_sub hl [0, 4, 1, 5, 6, 7] (by rfl : lv_pick [(5, .int y_42), (3, .int x_41), (7, .int v88_7), (6, .ref a_28), (4, .ref a_7), (0, .ref a0_), (1, .ref a1_), (2, .int x2_)] [0, 4, 1, 5, 6, 7] = [(5, .int y_42), (4, .ref a_7), (3, .int x_41), (0, .ref a0_), (1, .ref a1_), (2, .int x2_)])
                    have g9 := g.sub (fx' := [(1, 4, q1_, .ref a_7), (1, 3, q1_, .ref a_7), (1, 2, q1_, .ref a_7), (1, 1, q1_, .ref a_9), (1, 0, q1_, .ref q0_), (7, 0, q0_, .ref a_8), (4, 9, a1_, .ref a_6), (4, 7, a1_, .ref a_4), (4, 0, a1_, .int w88_4_0_a1_), (10, 0, a0_, .ref q0_), (10, 1, a0_, .ref q1_), (7, 1, q0_, .int y0_), (4, 6, a1_, .int y1_), (4, 14, a1_, .int y2_)]) [4, 5, 6, 7, 8, 9, 10, 11, 12, 13, 14, 15, 16, 17] rfl
                    exact ih52  y_42 x_41 w88_4_0_a1_ (bd_sub b_43 (by decide)) bw88_4_0_a1_ (by have h9_0 := b_43; unfold bd at h9_0; have h9_1 := bdT v52_3; unfold bd at h9_1; have h9_2 := bdT x_41; unfold bd at h9_2; have h9_3 := bv52_5; unfold bd at h9_3; have h9_4 := bw52_4_0_a1_; unfold bd at h9_4; have h9_5 := bw88_4_0_a1_; unfold bd at h9_5; have h9_6 := kb_0; unfold bd at h9_6; have h9_7 := kb_1; unfold bd at h9_7; have h9_8 := kb_8; unfold bd at h9_8; omega) _ _ _ _ g9 hG88_c_q0_ hl9
                  · have fc_40 := nle_f c_40
                    have b_44 : bd 0 499 v88_7 := ltL fc_40 bv88_7 bx_39 (by decide)
                    have b_45 : bd 1 500 x_39 := ltR fc_40 bv88_7 bx_39 (by decide)
                    refine lv_aload_n hx hb dX10_askKept_116 rfl (lv_at hl 5 rfl) ?_
                    refine lv_aload_n hx hb dX10_askKept_117 rfl (lv_at hl 6 rfl) ?_
                    refine lv_iload hx hb dX10_askKept_118 (lv_at hl 0 rfl) ?_
                    refine lv_iload_n hx hb dX10_askKept_120 rfl (lv_at hl 7 rfl) ?_
                    have go_ := g
                    refine g_calli (va_runV (As := [.ref a1_, .int v88_7, .int x2_]) (rest := []) ⟨hx, hb, hml, hown, hts⟩ (r_X10_holds_10 l dC dI L kd tys f H.size g.2.2.2.1 a0_ ma0_ ka0_ a1_ ma1_ ka1_ v88_7 b_44 x2_ bx2_ q1_ mq1_ kq1_ q0_ mq0_ kq0_ a_9 ma_9 ka_9 x_39 b_45 w88_4_0_a1_ bw88_4_0_a1_ y0_ by0_ y1_ by1_ y2_ by2_ hG88_c_q0_ (g.fcts [13, 7, 6, 0, 11, 14, 15, 16] rfl)) (cwV 3 hts (gV_ t_1547 t_1549 t_57 t_194 t_1550) rfl rfl rfl (by decide +kernel) ⟨(Nat.le_of_ble_eq_true rfl), (Nat.le_of_ble_eq_true rfl)⟩) (pre3V g hK ma0_ ka0_ (by decide) (q := (RX10, TX10, 10)) rfl) rfl rfl hl.1 rfl (lv_room (Nat.le_of_ble_eq_true rfl)) dX10_askKept_121 ⟨(Nat.le_of_ble_eq_true rfl), (Nat.le_of_ble_eq_true rfl)⟩) g hK (by decide) (by decide) (fx' := [(7, 13, q0_, .int x_39), (9, 11, a_28, .int x_31), (9, 10, a_28, .int x_29), (1, 4, q1_, .ref a_7), (1, 3, q1_, .ref a_7), (1, 2, q1_, .ref a_7), (1, 1, q1_, .ref a_9), (1, 0, q1_, .ref q0_), (7, 0, q0_, .ref a_8), (4, 9, a1_, .ref a_6), (4, 7, a1_, .ref a_4), (10, 0, a0_, .ref q0_), (10, 1, a0_, .ref q1_), (7, 1, q0_, .int y0_), (4, 6, a1_, .int y1_), (4, 14, a1_, .int y2_)]) rfl (fun r_46 fr_46 H locs hp hMr_46 g => ?_)
                    rcases hp with ⟨h_47, hF_48⟩ | ⟨h_49, x_50, h_51, x_52, h_53, hF_54⟩
                    · have hG_55 := cOK.frame hMr_46 go_.2.2.2.1 mq0_ kq0_ (by decide) (by decide) hG88_c_q0_
                      obtain rfl : r_46 = 0 := h_47
                      have g := g.more hF_48
                      refine lv_if_ne (tgt := 150) hx hb dX10_askKept_124 (by decide) (fun c_ => absurd c_ (by decide)) (fun c_ => ?_)
                      refine lv_aload_n hx hb dX10_askKept_127 rfl (lv_at hl 6 rfl) ?_
                      refine lv_aload_n hx hb dX10_askKept_128 rfl (lv_at hl 6 rfl) ?_
                      refine g_geti (C := RX4) (T := TX4) (N := 17) hx hb hts (mc_ inX4) hown hK g ma1_ ka1_ (by decide) rfl 0 (by decide) rfl (hts _ (List.mem_cons_of_mem _ t_837)) (fun _ h9 => h9) rfl dX10_askKept_129 (fun x_56 bx_56 g => ?_)
                      refine lv_if_ne (tgt := 139) hx hb dX10_askKept_132 (by decide) (fun c_57 => ?_) (fun c_57 => ?_)
                      · have fc_57 := neq_f c_57
                        refine lv_aload_n hx hb dX10_askKept_139 rfl (lv_at hl 6 rfl) ?_
                        refine g_getk (C := RX4) (T := TX4) (N := 17) hx hb hts (mc_ inX4) hown hK g rfl 0 (by decide) rfl (hts _ (List.mem_cons_of_mem _ t_837)) (fun _ h9 => h9) 0 rfl dX10_askKept_140 ?_
                        refine lv_iload hx hb dX10_askKept_143 (lv_at hl 0 rfl) ?_
                        refine lv_iload_n hx hb dX10_askKept_145 rfl (lv_at hl 7 rfl) ?_
                        have go_ := g
                        refine g_callv (va_runV (As := [.int x_56, .int v88_7, .int x2_]) (rest := []) ⟨hx, hb, hml, hown, hts⟩ (r_X4_breakBy l dC dI L kd tys fr_46 H.size g.2.2.2.1 a1_ ma1_ ka1_ x_56 v88_7 x2_) (cwV 3 hts (gV_ t_1606 t_1607 t_1608 t_197 t_1609) rfl rfl rfl (by decide +kernel) ⟨(Nat.le_of_ble_eq_true rfl), (Nat.le_of_ble_eq_true rfl)⟩) (pre3V g hK ma1_ ka1_ (by decide) (q := (RX4, TX4, 17)) rfl) rfl rfl hl.1 rfl (lv_room (Nat.le_of_ble_eq_true rfl)) dX10_askKept_146 ⟨(Nat.le_of_ble_eq_true rfl), (Nat.le_of_ble_eq_true rfl)⟩) g hK (by decide) (by decide) (fx' := [(1, 12, q1_, .int 0), (1, 5, q1_, .int 1), (7, 13, q0_, .int x_39), (9, 11, a_28, .int x_31), (9, 10, a_28, .int x_29), (1, 4, q1_, .ref a_7), (1, 3, q1_, .ref a_7), (1, 2, q1_, .ref a_7), (1, 1, q1_, .ref a_9), (1, 0, q1_, .ref q0_), (7, 0, q0_, .ref a_8), (4, 9, a1_, .ref a_6), (4, 7, a1_, .ref a_4), (10, 0, a0_, .ref q0_), (10, 1, a0_, .ref q1_), (7, 1, q0_, .int y0_), (4, 6, a1_, .int y1_), (4, 14, a1_, .int y2_)]) rfl (fun fr_58 H locs hp hMr_58 g => ?_)
                        have hG_59 := cOK.frame hMr_58 go_.2.2.2.1 mq0_ kq0_ (by decide) (by decide) hG_55
                        subst hQ
                        exact W.vret hx hb hr (fun t ht hW => ⟨⟨_, rfl, trivial, q3_of g hK ht hW⟩, g.2.2.1.F ht⟩) g.2.2.1.2.2 dX10_askKept_149
                      · have fc_57 := eq_f c_57
                        have b_60 : bd 0 0 x_56 := eqX fc_57 (bdT x_56) kb_0 (by decide)
                        refine lv_iconst (v := 2) hx hb dX10_askKept_135 (by decide) ?_
                        refine lv_goto (tgt := 143) hx hb dX10_askKept_136 (by decide) ?_
                        refine lv_iload hx hb dX10_askKept_143 (lv_at hl 0 rfl) ?_
                        refine lv_iload_n hx hb dX10_askKept_145 rfl (lv_at hl 7 rfl) ?_
                        have go_ := g
                        refine g_callv (va_runV (As := [.int 2, .int v88_7, .int x2_]) (rest := []) ⟨hx, hb, hml, hown, hts⟩ (r_X4_breakBy l dC dI L kd tys fr_46 H.size g.2.2.2.1 a1_ ma1_ ka1_ 2 v88_7 x2_) (cwV 3 hts (gV_ t_1606 t_1607 t_1608 t_197 t_1609) rfl rfl rfl (by decide +kernel) ⟨(Nat.le_of_ble_eq_true rfl), (Nat.le_of_ble_eq_true rfl)⟩) (pre3V g hK ma1_ ka1_ (by decide) (q := (RX4, TX4, 17)) rfl) rfl rfl hl.1 rfl (lv_room (Nat.le_of_ble_eq_true rfl)) dX10_askKept_146 ⟨(Nat.le_of_ble_eq_true rfl), (Nat.le_of_ble_eq_true rfl)⟩) g hK (by decide) (by decide) (fx' := [(1, 12, q1_, .int 0), (1, 5, q1_, .int 1), (7, 13, q0_, .int x_39), (9, 11, a_28, .int x_31), (9, 10, a_28, .int x_29), (1, 4, q1_, .ref a_7), (1, 3, q1_, .ref a_7), (1, 2, q1_, .ref a_7), (1, 1, q1_, .ref a_9), (1, 0, q1_, .ref q0_), (7, 0, q0_, .ref a_8), (4, 9, a1_, .ref a_6), (4, 7, a1_, .ref a_4), (10, 0, a0_, .ref q0_), (10, 1, a0_, .ref q1_), (7, 1, q0_, .int y0_), (4, 6, a1_, .int y1_), (4, 14, a1_, .int y2_)]) rfl (fun fr_61 H locs hp hMr_61 g => ?_)
                        have hG_62 := cOK.frame hMr_61 go_.2.2.2.1 mq0_ kq0_ (by decide) (by decide) hG_55
                        subst hQ
                        exact W.vret hx hb hr (fun t ht hW => ⟨⟨_, rfl, trivial, q3_of g hK ht hW⟩, g.2.2.1.F ht⟩) g.2.2.1.2.2 dX10_askKept_149
                    · have hG_63 := cOK.frame hMr_46 go_.2.2.2.1 mq0_ kq0_ (by decide) (by decide) hG88_c_q0_
                      obtain rfl : r_46 = 1 := h_49
                      have g := g.more hF_54
                      refine lv_if_ne (tgt := 150) hx hb dX10_askKept_124 (by decide) (fun c_ => ?_) (fun c_ => absurd c_ (by decide))
                      have kb_1 : bd 1 1 (1 : Int32) := ⟨by decide, by decide⟩
                      obtain ⟨y_64, ey_64⟩ : ∃ z : Int32, z = v88_7 + 1 := ⟨_, rfl⟩
                      refine lv_iinc (v := y_64) (lv' := [(7, .int y_64), (6, .ref a_28), (5, .int v52_5), (4, .ref a_7), (3, .int v52_3), (0, .ref a0_), (1, .ref a1_), (2, .int x2_)]) hx hb dX10_askKept_150 hl (k := 0) rfl (by rw [ey_64]; rfl) (by decide) rfl (fun ls hl => ?_)
                      have ty_64 := add_bd ey_64 b_44 kb_1 (by decide)
                      have b_65 : bd 1 500 y_64 := add_rg ty_64 b_44 kb_1 (by decide)
                      refine lv_goto (tgt := 88) hx hb dX10_askKept_153 (by decide) ?_
                      have hl9 := lv_sub hl [0, 1, 2, 3, 4, 5, 6, 7] (by rfl : lv_pick [(7, .int y_64), (6, .ref a_28), (5, .int v52_5), (4, .ref a_7), (3, .int v52_3), (0, .ref a0_), (1, .ref a1_), (2, .int x2_)] [0, 1, 2, 3, 4, 5, 6, 7] = [(7, .int y_64), (6, .ref a_28), (5, .int v52_5), (4, .ref a_7), (3, .int v52_3), (0, .ref a0_), (1, .ref a1_), (2, .int x2_)])
                      have g9 := g.sub (fx' := [(9, 10, a_28, .int x_29), (1, 4, q1_, .ref a_7), (1, 3, q1_, .ref a_7), (1, 2, q1_, .ref a_7), (1, 1, q1_, .ref a_9), (1, 0, q1_, .ref q0_), (7, 0, q0_, .ref a_8), (4, 9, a1_, .ref a_6), (4, 7, a1_, .ref a_4), (4, 0, a1_, .int x_52), (10, 0, a0_, .ref q0_), (10, 1, a0_, .ref q1_), (7, 1, q0_, .int y0_), (4, 6, a1_, .int y1_), (4, 14, a1_, .int y2_)]) [6, 7, 8, 9, 10, 11, 12, 13, 14, 3, 15, 16, 17, 18, 19] rfl
                      exact ih88  y_64 x_52 (bd_sub b_65 (by decide)) h_53 (by have h9_0 := b_65; unfold bd at h9_0; have h9_1 := bv88_7; unfold bd at h9_1; have h9_2 := bw88_4_0_a1_; unfold bd at h9_2; have h9_3 := h_53; unfold bd at h9_3; have h9_4 := kb_0; unfold bd at h9_4; have h9_5 := kb_1; unfold bd at h9_5; have h9_6 := kb_8; unfold bd at h9_6; omega) _ _ _ _ g9 hG_63 hl9
            have hl9 := lv_sub hl [0, 1, 2, 3, 4, 5, 6, 7] (by rfl : lv_pick [(7, .int x_29), (6, .ref a_28), (5, .int v52_5), (4, .ref a_7), (3, .int v52_3), (0, .ref a0_), (1, .ref a1_), (2, .int x2_)] [0, 1, 2, 3, 4, 5, 6, 7] = [(7, .int x_29), (6, .ref a_28), (5, .int v52_5), (4, .ref a_7), (3, .int v52_3), (0, .ref a0_), (1, .ref a1_), (2, .int x2_)])
            have g9 := g.sub (fx' := [(9, 10, a_28, .int x_29), (1, 4, q1_, .ref a_7), (1, 3, q1_, .ref a_7), (1, 2, q1_, .ref a_7), (1, 1, q1_, .ref a_9), (1, 0, q1_, .ref q0_), (7, 0, q0_, .ref a_8), (4, 9, a1_, .ref a_6), (4, 7, a1_, .ref a_4), (4, 0, a1_, .int w52_4_0_a1_), (10, 0, a0_, .ref q0_), (10, 1, a0_, .ref q1_), (7, 1, q0_, .int y0_), (4, 6, a1_, .int y1_), (4, 14, a1_, .int y2_)]) [0, 1, 2, 3, 4, 5, 6, 7, 8, 9, 10, 11, 12, 13, 14] rfl
            exact loop_30 (1003) x_29 w52_4_0_a1_ bx_29 bw52_4_0_a1_ (by have h9_0 := bw52_4_0_a1_; unfold bd at h9_0; have h9_1 := bx_29; unfold bd at h9_1; have h9_2 := kb_0; unfold bd at h9_2; have h9_3 := kb_8; unfold bd at h9_3; omega) _ _ _ _ g9 hG_25 hl9
    have hl9 := lv_sub hl [0, 1, 2, 3, 4, 5] (by rfl : lv_pick [(5, .int 0), (4, .ref a_7), (3, .int x_5), (0, .ref a0_), (1, .ref a1_), (2, .int x2_)] [0, 1, 2, 3, 4, 5] = [(5, .int 0), (4, .ref a_7), (3, .int x_5), (0, .ref a0_), (1, .ref a1_), (2, .int x2_)])
    have g9 := g.sub (fx' := [(1, 4, q1_, .ref a_7), (1, 3, q1_, .ref a_7), (1, 2, q1_, .ref a_7), (1, 1, q1_, .ref a_9), (1, 0, q1_, .ref q0_), (7, 0, q0_, .ref a_8), (4, 9, a1_, .ref a_6), (4, 7, a1_, .ref a_4), (4, 0, a1_, .int x_1), (10, 0, a0_, .ref q0_), (10, 1, a0_, .ref q1_), (7, 1, q0_, .int y0_), (4, 6, a1_, .int y1_), (4, 14, a1_, .int y2_)]) [0, 1, 2, 3, 4, 5, 6, 7, 8, 9, 10, 11, 12, 13] rfl
    exact loop_13 (19) 0 x_5 x_1 (bd_sub kb_0 (by decide)) b_3 (by have h9_0 := b_3; unfold bd at h9_0; have h9_1 := bx_5; unfold bd at h9_1; have h9_2 := kb_0; unfold bd at h9_2; omega) _ _ _ _ g9 hG_12 hl9
  · have fc_2 := neq_f c_2
    subst hQ
    exact W.vret hx hb hr (fun t ht hW => ⟨⟨_, rfl, trivial, q3_of g hK ht hW⟩, g.2.2.1.F ht⟩) g.2.2.1.2.2 dX10_askKept_7
