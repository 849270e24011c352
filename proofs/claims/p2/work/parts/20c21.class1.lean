set_option maxHeartbeats 4000000 in
set_option maxRecDepth 100000 in
theorem r_X10_fieldsThatMayChange (l : Launch) (dC : Nat → ClassId) (dI : Nat → Nat → Nat) (L : List Nat) (kd : Nat → Nat) (tys : List (ClassId × FieldType)) (f0 : Nat → va_E) (sz : Nat) (hWT : WT L kd tys f0) (a0_ : Nat) (ma0_ : a0_ ∈ L) (ka0_ : kd a0_ = 10) (x1_ : Int32) (bx1_ : bd 0 95 x1_) : Met l yX10_fieldsThatMayChange (.code yX10_fieldsThatMayChange cX10_fieldsThatMayChange 7 (some .int) :: lw_g) ({ frames := 2, cells := 0, slots := 0, locals := 34 }) (va_Pc [.ref a0_, .int x1_] (P3 (dC, dI) L tys f0 sz)) (va_Qi (fun (r : Int32) (f : Nat → va_E) => (True)) (Q3 (dC, dI) L kd tys [] [] f0 sz) (pA L sz)) 0 0 (pA L sz) := by
  refine Met.ofW (cc := cX10_fieldsThatMayChange) (maxL := 7) (ret := (some .int)) (by decide) rfl ?_
  intro p e s m args below meth c s₁ B hml hv
  obtain ⟨rfl, hsz, hP, hK, hD0⟩ := hv
  have hx := B.exec
  have hb := B.bytes
  have hr := B.returns
  have hts := atoms_spec (ws := (.code yX10_fieldsThatMayChange cX10_fieldsThatMayChange 7 (some .int) :: lw_g)) B.pre
  have hown : s.vm.findClass RX10 = some m.cls := findClass_of_methodNamed B.named
  have hlocks := B.notSynchronized
  subst hsz
  have g : G3 (dC, dI) L kd tys s f0 [] [] f0 s.heap [] [] := G3.start hP hD0 hWT Fs.nil
  have hl := lv_entry ([.ref a0_, .int x1_]) (n := 7) (Nat.le_of_ble_eq_true rfl)
  rw [lg_entry_eq]
  generalize (lg_sl ([.ref a0_, .int x1_]) ++ List.replicate (7 - (lg_sl ([.ref a0_, .int x1_])).length) Slot.unset).toArray = ls at hl ⊢
  have hl : lv_has ls 7 [(0, .ref a0_), (1, .int x1_)] := hl
  refine W_q (fun Q hQ => ?_)
  refine lv_iconst (v := (-1)) hx hb dX10_fieldsThatMayChange_0 (by decide) ?_
  refine lv_istore_n (lv' := [(2, .int (-1)), (0, .ref a0_), (1, .int x1_)]) hx hb dX10_fieldsThatMayChange_1 rfl hl (by decide) rfl (fun ls hl => ?_)
  refine lv_iload_n hx hb dX10_fieldsThatMayChange_2 rfl (lv_at hl 2 rfl) ?_
  refine lv_istore_n (lv' := [(3, .int x1_), (2, .int (-1)), (0, .ref a0_), (1, .int x1_)]) hx hb dX10_fieldsThatMayChange_3 rfl hl (by decide) rfl (fun ls hl => ?_)
  refine lv_iconst (v := 0) hx hb dX10_fieldsThatMayChange_4 (by decide) ?_
  refine lv_istore (lv' := [(4, .int 0), (3, .int x1_), (2, .int (-1)), (0, .ref a0_), (1, .int x1_)]) hx hb dX10_fieldsThatMayChange_5 hl (by decide) rfl (fun ls hl => ?_)
  have loop_1 : ∀ (n : Nat) (v7_4 : Int32) (v7_3 : Int32) (v7_2 : Int32), bd 0 8 v7_4 → bd (-1) 95 v7_3 → (8 - v7_4.toInt < (n : Int)) → ∀ (f : Nat → va_E) (H : Heap) (locs : List Loc) (ls : Array Slot), G3 (dC, dI) L kd tys s f0 [] [] f H locs [] → lv_has ls 7 [(4, .int v7_4), (3, .int v7_3), (2, .int v7_2), (0, .ref a0_), (1, .int x1_)] → W p l e ({ frames := 2, cells := 0, slots := 0, locals := 34 } : Room) s m [.ref a0_, .int x1_].toArray below meth c H locs 0 0 Q (F0 m 7 ls []) := by
    intro n7
    induction n7 with
    | zero =>
      intro v7_4 v7_3 v7_2 bv7_4 bv7_3  hm7 f H locs ls g  hl
      exact absurd hm7 (by have h9_v7_4 := bv7_4; unfold bd at h9_v7_4; have h9_v7_3 := bv7_3; unfold bd at h9_v7_3; have h9_v7_2 := bdT v7_2; unfold bd at h9_v7_2; omega)
    | succ n7 ih7 =>
      intro v7_4 v7_3 v7_2 bv7_4 bv7_3  hm7 f H locs ls g  hl
      refine lv_iload hx hb dX10_fieldsThatMayChange_7 (lv_at hl 0 rfl) ?_
      refine lv_bipush (v := 8) hx hb dX10_fieldsThatMayChange_9 (by decide) ?_
      have kb_8 : bd 8 8 (8 : Int32) := ⟨by decide, by decide⟩
      refine lv_icmp_ge (tgt := 96) hx hb dX10_fieldsThatMayChange_11 (by decide) (fun c_2 => ?_) (fun c_2 => ?_)
      · have fc_2 := le_f c_2
        have b_3 : bd 8 8 v7_4 := leR fc_2 kb_8 bv7_4 (by decide)
        refine lv_iload_n hx hb dX10_fieldsThatMayChange_96 rfl (lv_at hl 2 rfl) ?_
        subst hQ
        exact W.iret (v := v7_2) hx hb hr (fun t ht hW => ⟨⟨_, _, rfl, trivial, q3_of g hK ht hW⟩, g.2.2.1.F ht⟩) g.2.2.1.2.2 dX10_fieldsThatMayChange_97
      · have fc_2 := nle_f c_2
        have b_4 : bd 0 7 v7_4 := ltL fc_2 bv7_4 kb_8 (by decide)
        refine lv_iload_n hx hb dX10_fieldsThatMayChange_14 rfl (lv_at hl 1 rfl) ?_
        refine lv_iconst (v := (-1)) hx hb dX10_fieldsThatMayChange_15 (by decide) ?_
        have kb_m1 : bd (-1) (-1) ((-1) : Int32) := ⟨by decide, by decide⟩
        refine lv_icmp_eq (tgt := 96) hx hb dX10_fieldsThatMayChange_16 (by decide) (fun c_5 => ?_) (fun c_5 => ?_)
        · have fc_5 := eq_f c_5
          have b_6 : bd (-1) (-1) v7_3 := eqX fc_5 bv7_3 kb_m1 (by decide)
          refine lv_iload_n hx hb dX10_fieldsThatMayChange_96 rfl (lv_at hl 2 rfl) ?_
          subst hQ
          exact W.iret (v := v7_2) hx hb hr (fun t ht hW => ⟨⟨_, _, rfl, trivial, q3_of g hK ht hW⟩, g.2.2.1.F ht⟩) g.2.2.1.2.2 dX10_fieldsThatMayChange_97
        · have fc_5 := neq_f c_5
          have b_7 : bd 0 95 v7_3 := neX fc_5 bv7_3 kb_m1 (by decide)
          refine lv_aload_n hx hb dX10_fieldsThatMayChange_19 rfl (lv_at hl 3 rfl) ?_
          refine lv_iload_n hx hb dX10_fieldsThatMayChange_20 rfl (lv_at hl 1 rfl) ?_
          refine g_calli (va_runV (As := [.int v7_3]) (rest := []) ⟨hx, hb, hml, hown, hts⟩ (r_X10_lastMark l dC dI L kd tys f H.size g.2.2.2.1 a0_ ma0_ ka0_ v7_3 b_7) (cwV 1 hts (gV_ t_1620 t_1622 t_71 t_194 t_1623) rfl rfl rfl (by decide +kernel) ⟨(Nat.le_of_ble_eq_true rfl), (Nat.le_of_ble_eq_true rfl)⟩) (pre3V g hK ma0_ ka0_ (by decide) (q := (RX10, TX10, 10)) rfl) rfl rfl hl.1 rfl (lv_room (Nat.le_of_ble_eq_true rfl)) dX10_fieldsThatMayChange_21 ⟨(Nat.le_of_ble_eq_true rfl), (Nat.le_of_ble_eq_true rfl)⟩) g hK (by decide) (by decide) (fx' := []) rfl (fun r_8 fr_8 H locs hp hMr_8 g => ?_)
          obtain ⟨h_9, -⟩ := hp
          refine lv_istore (lv' := [(5, .int r_8), (4, .int v7_4), (3, .int v7_3), (2, .int v7_2), (0, .ref a0_), (1, .int x1_)]) hx hb dX10_fieldsThatMayChange_24 hl (by decide) rfl (fun ls hl => ?_)
          refine lv_aload_n hx hb dX10_fieldsThatMayChange_26 rfl (lv_at hl 4 rfl) ?_
          refine g_getr (K := 7) (C := RX10) (T := TX10) (N := 10) hx hb hts (mc_ inX10) hown hK g ma0_ ka0_ (by decide) rfl 0 (by decide) rfl (hts _ (List.mem_cons_of_mem _ t_912)) (fun _ h9 => h9) rfl dX10_fieldsThatMayChange_27 (fun a_10 ma_10 ka_10 g => ?_)
          refine g_getr (K := 137) (C := RX7) (T := TX7) (N := 19) hx hb hts (mc_ inX7) hown hK g ma_10 ka_10 (by decide) rfl 2 (by decide) rfl (hts _ (List.mem_cons_of_mem _ t_634)) (fun _ h9 => h9) rfl dX10_fieldsThatMayChange_30 (fun a_11 ma_11 ka_11 g => ?_)
          refine lv_iload_n hx hb dX10_fieldsThatMayChange_33 rfl (lv_at hl 2 rfl) ?_
          refine g_aald hx hb hK g ma_11 ka_11 (by decide) rfl (by decide) (in_bd b_7 (by decide)) dX10_fieldsThatMayChange_34 (fun a_12 ma_12 ua_12 wa_12 => ?_)
          have ka_12 : kd a_12 = 6 := by omega
          refine g_geti (C := RX6) (T := TX6) (N := 13) hx hb hts (mc_ inX6) hown hK g ma_12 ka_12 (by decide) rfl 11 (by decide) rfl (hts _ (List.mem_cons_of_mem _ t_590)) (fun _ h9 => h9) rfl dX10_fieldsThatMayChange_35 (fun x_13 bx_13 g => ?_)
          refine lv_istore (lv' := [(6, .int x_13), (5, .int r_8), (4, .int v7_4), (3, .int v7_3), (2, .int v7_2), (0, .ref a0_), (1, .int x1_)]) hx hb dX10_fieldsThatMayChange_38 hl (by decide) rfl (fun ls hl => ?_)
          have loop_14 : ∀ (n : Nat) (v40_6 : Int32) (v40_2 : Int32), bd 0 500 v40_6 → (500 - v40_6.toInt < (n : Int)) → ∀ (f : Nat → va_E) (H : Heap) (locs : List Loc) (ls : Array Slot), G3 (dC, dI) L kd tys s f0 [] [] f H locs [(6, 11, a_12, .int x_13), (7, 2, a_10, .ref a_11), (10, 0, a0_, .ref a_10)] → lv_has ls 7 [(6, .int v40_6), (5, .int r_8), (4, .int v7_4), (3, .int v7_3), (2, .int v40_2), (0, .ref a0_), (1, .int x1_)] → W p l e ({ frames := 2, cells := 0, slots := 0, locals := 34 } : Room) s m [.ref a0_, .int x1_].toArray below meth c H locs 0 0 Q (F0 m 40 ls []) := by
            intro n40
            induction n40 with
            | zero =>
              intro v40_6 v40_2 bv40_6  hm40 f H locs ls g  hl
              exact absurd hm40 (by have h9_v40_6 := bv40_6; unfold bd at h9_v40_6; have h9_v40_2 := bdT v40_2; unfold bd at h9_v40_2; omega)
            | succ n40 ih40 =>
              intro v40_6 v40_2 bv40_6  hm40 f H locs ls g  hl
              refine lv_iload hx hb dX10_fieldsThatMayChange_40 (lv_at hl 0 rfl) ?_
              refine lv_iload hx hb dX10_fieldsThatMayChange_42 (lv_at hl 1 rfl) ?_
              refine lv_icmp_gt (tgt := 84) hx hb dX10_fieldsThatMayChange_44 (by decide) (fun c_15 => ?_) (fun c_15 => ?_)
              · have fc_15 := lt_f c_15
                refine lv_aload_n hx hb dX10_fieldsThatMayChange_84 rfl (lv_at hl 5 rfl) ?_
                refine lv_iload_n hx hb dX10_fieldsThatMayChange_85 rfl (lv_at hl 3 rfl) ?_
                refine g_calli (va_runV (As := [.int v7_3]) (rest := []) ⟨hx, hb, hml, hown, hts⟩ (r_X10_upwards l dC dI L kd tys f H.size g.2.2.2.1 a0_ ma0_ ka0_ v7_3) (cwV 1 hts (gV_ t_1625 t_1627 t_72 t_194 t_1628) rfl rfl rfl (by decide +kernel) ⟨(Nat.le_of_ble_eq_true rfl), (Nat.le_of_ble_eq_true rfl)⟩) (pre3V g hK ma0_ ka0_ (by decide) (q := (RX10, TX10, 10)) rfl) rfl rfl hl.1 rfl (lv_room (Nat.le_of_ble_eq_true rfl)) dX10_fieldsThatMayChange_86 ⟨(Nat.le_of_ble_eq_true rfl), (Nat.le_of_ble_eq_true rfl)⟩) g hK (by decide) (by decide) (fx' := [(6, 11, a_12, .int x_13), (7, 2, a_10, .ref a_11), (10, 0, a0_, .ref a_10)]) rfl (fun r_16 fr_16 H locs hp hMr_16 g => ?_)
                obtain ⟨h_17, -⟩ := hp
                refine lv_istore_n (lv' := [(3, .int r_16), (6, .int v40_6), (5, .int r_8), (4, .int v7_4), (2, .int v40_2), (0, .ref a0_), (1, .int x1_)]) hx hb dX10_fieldsThatMayChange_89 rfl hl (by decide) rfl (fun ls hl => ?_)
                have kb_1 : bd 1 1 (1 : Int32) := ⟨by decide, by decide⟩
                obtain ⟨y_18, ey_18⟩ : ∃ z : Int32, z = v7_4 + 1 := ⟨_, rfl⟩
                refine lv_iinc (v := y_18) (lv' := [(4, .int y_18), (3, .int r_16), (6, .int v40_6), (5, .int r_8), (2, .int v40_2), (0, .ref a0_), (1, .int x1_)]) hx hb dX10_fieldsThatMayChange_90 hl (k := 3) rfl (by rw [ey_18]; rfl) (by decide) rfl (fun ls hl => ?_)
                have ty_18 := add_bd ey_18 b_4 kb_1 (by decide)
                have b_19 : bd 1 8 y_18 := add_rg ty_18 b_4 kb_1 (by decide)
                refine lv_goto (tgt := 7) hx hb dX10_fieldsThatMayChange_93 (by decide) ?_
                have hl9 := lv_sub hl [0, 1, 4, 5, 6] (by rfl : lv_pick [(4, .int y_18), (3, .int r_16), (6, .int v40_6), (5, .int r_8), (2, .int v40_2), (0, .ref a0_), (1, .int x1_)] [0, 1, 4, 5, 6] = [(4, .int y_18), (3, .int r_16), (2, .int v40_2), (0, .ref a0_), (1, .int x1_)])
                have g9 := g.sub (fx' := []) [] rfl
                exact ih7  y_18 r_16 v40_2 (bd_sub b_19 (by decide)) h_17 (by have h9_0 := b_19; unfold bd at h9_0; have h9_1 := bdT v40_2; unfold bd at h9_1; have h9_2 := bdT v7_2; unfold bd at h9_2; have h9_3 := bv7_3; unfold bd at h9_3; have h9_4 := bv7_4; unfold bd at h9_4; have h9_5 := h_17; unfold bd at h9_5; have h9_6 := kb_1; unfold bd at h9_6; have h9_7 := kb_8; unfold bd at h9_7; have h9_8 := kb_m1; unfold bd at h9_8; omega) _ _ _ _ g9  hl9
              · have fc_15 := nlt_f c_15
                have b_20 : bd 0 499 v40_6 := leL fc_15 bv40_6 h_9 (by decide)
                have b_21 : bd 0 499 r_8 := leR fc_15 bv40_6 h_9 (by decide)
                refine lv_iload_n hx hb dX10_fieldsThatMayChange_47 rfl (lv_at hl 4 rfl) ?_
                refine lv_aload_n hx hb dX10_fieldsThatMayChange_48 rfl (lv_at hl 5 rfl) ?_
                refine g_getk (C := RX10) (T := TX10) (N := 10) hx hb hts (mc_ inX10) hown hK g rfl 0 (by decide) rfl (hts _ (List.mem_cons_of_mem _ t_912)) (fun _ h9 => h9) 2 rfl dX10_fieldsThatMayChange_49 ?_
                refine g_getr (K := 140) (C := RX7) (T := TX7) (N := 19) hx hb hts (mc_ inX7) hown hK g ma_10 ka_10 (by decide) rfl 7 (by decide) rfl (hts _ (List.mem_cons_of_mem _ t_650)) (fun _ h9 => h9) rfl dX10_fieldsThatMayChange_52 (fun a_22 ma_22 ka_22 g => ?_)
                refine lv_iload hx hb dX10_fieldsThatMayChange_55 (lv_at hl 0 rfl) ?_
                refine g_iald hx hb hK g ma_22 ka_22 (by decide) rfl (in_bd b_20 (by decide)) dX10_fieldsThatMayChange_57 (fun x_23 bx_23 cx_23 => ?_)
                refine lv_iconst (v := 5) hx hb dX10_fieldsThatMayChange_58 (by decide) ?_
                have kb_5 : bd 5 5 (5 : Int32) := ⟨by decide, by decide⟩
                refine lv_icmp_ne (tgt := 75) hx hb dX10_fieldsThatMayChange_59 (by decide) (fun c_24 => ?_) (fun c_24 => ?_)
                · have fc_24 := neq_f c_24
                  refine lv_iconst (v := (-1)) hx hb dX10_fieldsThatMayChange_75 (by decide) ?_
                  refine lv_iand hx hb dX10_fieldsThatMayChange_76 ?_
                  refine lv_topi (fun y_25 ey_25 => ?_)
                  refine lv_istore_n (lv' := [(2, .int y_25), (6, .int v40_6), (5, .int r_8), (4, .int v7_4), (3, .int v7_3), (0, .ref a0_), (1, .int x1_)]) hx hb dX10_fieldsThatMayChange_77 rfl hl (by decide) rfl (fun ls hl => ?_)
                  have kb_1 : bd 1 1 (1 : Int32) := ⟨by decide, by decide⟩
                  obtain ⟨y_26, ey_26⟩ : ∃ z : Int32, z = v40_6 + 1 := ⟨_, rfl⟩
                  refine lv_iinc (v := y_26) (lv' := [(6, .int y_26), (2, .int y_25), (5, .int r_8), (4, .int v7_4), (3, .int v7_3), (0, .ref a0_), (1, .int x1_)]) hx hb dX10_fieldsThatMayChange_78 hl (k := 1) rfl (by rw [ey_26]; rfl) (by decide) rfl (fun ls hl => ?_)
                  have ty_26 := add_bd ey_26 b_20 kb_1 (by decide)
                  have b_27 : bd 1 500 y_26 := add_rg ty_26 b_20 kb_1 (by decide)
                  refine lv_goto (tgt := 40) hx hb dX10_fieldsThatMayChange_81 (by decide) ?_
                  have hl9 := lv_sub hl [0, 2, 3, 4, 1, 5, 6] (by rfl : lv_pick [(6, .int y_26), (2, .int y_25), (5, .int r_8), (4, .int v7_4), (3, .int v7_3), (0, .ref a0_), (1, .int x1_)] [0, 2, 3, 4, 1, 5, 6] = [(6, .int y_26), (5, .int r_8), (4, .int v7_4), (3, .int v7_3), (2, .int y_25), (0, .ref a0_), (1, .int x1_)])
                  have g9 := g.sub (fx' := [(6, 11, a_12, .int x_13), (7, 2, a_10, .ref a_11), (10, 0, a0_, .ref a_10)]) [1, 2, 3] rfl
                  exact ih40  y_26 y_25 (bd_sub b_27 (by decide)) (by have h9_0 := b_27; unfold bd at h9_0; have h9_1 := bdT v40_2; unfold bd at h9_1; have h9_2 := bdT y_25; unfold bd at h9_2; have h9_3 := bv40_6; unfold bd at h9_3; have h9_4 := kb_1; unfold bd at h9_4; have h9_5 := kb_5; unfold bd at h9_5; have h9_6 := kb_8; unfold bd at h9_6; have h9_7 := kb_m1; unfold bd at h9_7; omega) _ _ _ _ g9  hl9
                · have fc_24 := eq_f c_24
                  have b_28 : bd 5 5 x_23 := eqX fc_24 (bdT x_23) kb_5 (by decide)
                  refine lv_aload_n hx hb dX10_fieldsThatMayChange_62 rfl (lv_at hl 5 rfl) ?_
                  refine g_getk (C := RX10) (T := TX10) (N := 10) hx hb hts (mc_ inX10) hown hK g rfl 0 (by decide) rfl (hts _ (List.mem_cons_of_mem _ t_912)) (fun _ h9 => h9) 3 rfl dX10_fieldsThatMayChange_63 ?_
                  refine g_getr (K := 143) (C := RX7) (T := TX7) (N := 19) hx hb hts (mc_ inX7) hown hK g ma_10 ka_10 (by decide) rfl 10 (by decide) rfl (hts _ (List.mem_cons_of_mem _ t_660)) (fun _ h9 => h9) rfl dX10_fieldsThatMayChange_66 (fun a_29 ma_29 ka_29 g => ?_)
                  refine lv_iload hx hb dX10_fieldsThatMayChange_69 (lv_at hl 0 rfl) ?_
                  refine g_iald hx hb hK g ma_29 ka_29 (by decide) rfl (in_bd b_20 (by decide)) dX10_fieldsThatMayChange_71 (fun x_30 bx_30 cx_30 => ?_)
                  refine lv_goto (tgt := 76) hx hb dX10_fieldsThatMayChange_72 (by decide) ?_
                  refine lv_iand hx hb dX10_fieldsThatMayChange_76 ?_
                  refine lv_topi (fun y_31 ey_31 => ?_)
                  refine lv_istore_n (lv' := [(2, .int y_31), (6, .int v40_6), (5, .int r_8), (4, .int v7_4), (3, .int v7_3), (0, .ref a0_), (1, .int x1_)]) hx hb dX10_fieldsThatMayChange_77 rfl hl (by decide) rfl (fun ls hl => ?_)
                  have kb_1 : bd 1 1 (1 : Int32) := ⟨by decide, by decide⟩
                  obtain ⟨y_32, ey_32⟩ : ∃ z : Int32, z = v40_6 + 1 := ⟨_, rfl⟩
                  refine lv_iinc (v := y_32) (lv' := [(6, .int y_32), (2, .int y_31), (5, .int r_8), (4, .int v7_4), (3, .int v7_3), (0, .ref a0_), (1, .int x1_)]) hx hb dX10_fieldsThatMayChange_78 hl (k := 1) rfl (by rw [ey_32]; rfl) (by decide) rfl (fun ls hl => ?_)
                  have ty_32 := add_bd ey_32 b_20 kb_1 (by decide)
                  have b_33 : bd 1 500 y_32 := add_rg ty_32 b_20 kb_1 (by decide)
                  refine lv_goto (tgt := 40) hx hb dX10_fieldsThatMayChange_81 (by decide) ?_
                  have hl9 := lv_sub hl [0, 2, 3, 4, 1, 5, 6] (by rfl : lv_pick [(6, .int y_32), (2, .int y_31), (5, .int r_8), (4, .int v7_4), (3, .int v7_3), (0, .ref a0_), (1, .int x1_)] [0, 2, 3, 4, 1, 5, 6] = [(6, .int y_32), (5, .int r_8), (4, .int v7_4), (3, .int v7_3), (2, .int y_31), (0, .ref a0_), (1, .int x1_)])
                  have g9 := g.sub (fx' := [(6, 11, a_12, .int x_13), (7, 2, a_10, .ref a_11), (10, 0, a0_, .ref a_10)]) [2, 3, 4] rfl
                  exact ih40  y_32 y_31 (bd_sub b_33 (by decide)) (by have h9_0 := b_33; unfold bd at h9_0; have h9_1 := bdT v40_2; unfold bd at h9_1; have h9_2 := bdT y_31; unfold bd at h9_2; have h9_3 := bv40_6; unfold bd at h9_3; have h9_4 := kb_1; unfold bd at h9_4; have h9_5 := kb_5; unfold bd at h9_5; have h9_6 := kb_8; unfold bd at h9_6; have h9_7 := kb_m1; unfold bd at h9_7; omega) _ _ _ _ g9  hl9
          have hl9 := lv_sub hl [0, 1, 2, 3, 4, 5, 6] (by rfl : lv_pick [(6, .int x_13), (5, .int r_8), (4, .int v7_4), (3, .int v7_3), (2, .int v7_2), (0, .ref a0_), (1, .int x1_)] [0, 1, 2, 3, 4, 5, 6] = [(6, .int x_13), (5, .int r_8), (4, .int v7_4), (3, .int v7_3), (2, .int v7_2), (0, .ref a0_), (1, .int x1_)])
          have g9 := g.sub (fx' := [(6, 11, a_12, .int x_13), (7, 2, a_10, .ref a_11), (10, 0, a0_, .ref a_10)]) [0, 1, 2] rfl
          exact loop_14 (1003) x_13 v7_2 bx_13 (by have h9_0 := bdT v7_2; unfold bd at h9_0; have h9_1 := bx_13; unfold bd at h9_1; have h9_2 := kb_8; unfold bd at h9_2; have h9_3 := kb_m1; unfold bd at h9_3; omega) _ _ _ _ g9  hl9
  have kb_0 : bd 0 0 (0 : Int32) := ⟨by decide, by decide⟩
  have kb_m1 : bd (-1) (-1) ((-1) : Int32) := ⟨by decide, by decide⟩
  have hl9 := lv_sub hl [0, 1, 2, 3, 4] (by rfl : lv_pick [(4, .int 0), (3, .int x1_), (2, .int (-1)), (0, .ref a0_), (1, .int x1_)] [0, 1, 2, 3, 4] = [(4, .int 0), (3, .int x1_), (2, .int (-1)), (0, .ref a0_), (1, .int x1_)])
  have g9 := g.sub (fx' := []) [] rfl
  exact loop_1 (19) 0 x1_ (-1) (bd_sub kb_0 (by decide)) (bd_sub bx1_ (by decide)) (by have h9_0 := bx1_; unfold bd at h9_0; have h9_1 := kb_0; unfold bd at h9_1; have h9_2 := kb_m1; unfold bd at h9_2; omega) _ _ _ _ g9  hl9
set_option maxHeartbeats 4000000 in
set_option maxRecDepth 100000 in
theorem r_X10_holds_8 (l : Launch) (dC : Nat → ClassId) (dI : Nat → Nat → Nat) (L : List Nat) (kd : Nat → Nat) (tys : List (ClassId × FieldType)) (f0 : Nat → va_E) (sz : Nat) (hWT : WT L kd tys f0) (a0_ : Nat) (ma0_ : a0_ ∈ L) (ka0_ : kd a0_ = 10) (a1_ : Nat) (ma1_ : a1_ ∈ L) (ka1_ : kd a1_ = 4) (x2_ : Int32) (bx2_ : bd 0 499 x2_) (x3_ : Int32) (bx3_ : bd 0 2 x3_) (q0_ : Nat) (mq0_ : q0_ ∈ L) (kq0_ : kd q0_ = 1) (q1_ : Nat) (mq1_ : q1_ ∈ L) (kq1_ : kd q1_ = 7) (q2_ : Nat) (mq2_ : q2_ ∈ L) (kq2_ : kd q2_ = 9) (y0_ : Int32) (by0_ : bd 1 1 y0_) (y1_ : Int32) (by1_ : bd 0 0 y1_) (y2_ : Int32) (by2_ : bd 1 8 y2_) (y3_ : Int32) (by3_ : bd 1 3 y3_) (y4_ : Int32) (by4_ : bd 0 9 y4_) (hGq1_ : cOK f0 q1_) (hfx : Fs L kd f0 [(10, 1, a0_, .ref q0_), (1, 0, q0_, .ref q1_), (1, 1, q0_, .ref q2_), (4, 15, a1_, .int y0_), (4, 0, a1_, .int y1_), (7, 1, q1_, .int y2_), (4, 6, a1_, .int y3_), (4, 14, a1_, .int y4_)]) : Met l yX10_holds (.code yX10_holds cX10_holds 4 (some .boolean) :: lw_g) ({ frames := 2, cells := 0, slots := 0, locals := 50 }) (va_Pc [.ref a0_, .ref a1_, .int x2_, .int x3_] (P3 (dC, dI) L tys f0 sz)) (va_Qi (fun (r : Int32) (f : Nat → va_E) => (r = 0 ∧ Fs L kd f [(1, 12, q0_, .int 0), (1, 5, q0_, .int 1)]) ∨ (r = 1 ∧ ∃ z0_ : Int32, bd 1 1 z0_ ∧ ∃ z3_ : Int32, bd 0 0 z3_ ∧ Fs L kd f [(1, 15, q0_, .int z0_), (1, 12, q0_, .int 0), (1, 5, q0_, .int 1), (4, 0, a1_, .int z3_)])) (Q3 (dC, dI) L kd tys [(1, 5), (1, 6), (1, 8), (1, 11), (1, 12), (1, 13), (1, 14), (1, 15), (1, 16), (1, 17), (4, 0), (4, 1), (4, 2), (4, 5)] [100, 116, 117, 146] f0 sz) (pA L sz)) 0 0 (pA L sz) := by
  refine Met.ofW (cc := cX10_holds) (maxL := 4) (ret := (some .boolean)) (by decide) rfl ?_
  intro p e s m args below meth c s₁ B hml hv
  obtain ⟨rfl, hsz, hP, hK, hD0⟩ := hv
  have hx := B.exec
  have hb := B.bytes
  have hr := B.returns
  have hts := atoms_spec (ws := (.code yX10_holds cX10_holds 4 (some .boolean) :: lw_g)) B.pre
  have hown : s.vm.findClass RX10 = some m.cls := findClass_of_methodNamed B.named
  have hlocks := B.notSynchronized
  subst hsz
  have g : G3 (dC, dI) L kd tys s f0 [(1, 5), (1, 6), (1, 8), (1, 11), (1, 12), (1, 13), (1, 14), (1, 15), (1, 16), (1, 17), (4, 0), (4, 1), (4, 2), (4, 5)] [100, 116, 117, 146] f0 s.heap [] [(10, 1, a0_, .ref q0_), (1, 0, q0_, .ref q1_), (1, 1, q0_, .ref q2_), (4, 15, a1_, .int y0_), (4, 0, a1_, .int y1_), (7, 1, q1_, .int y2_), (4, 6, a1_, .int y3_), (4, 14, a1_, .int y4_)] := G3.start hP hD0 hWT hfx
  have hl := lv_entry ([.ref a0_, .ref a1_, .int x2_, .int x3_]) (n := 4) (Nat.le_of_ble_eq_true rfl)
  rw [lg_entry_eq]
  generalize (lg_sl ([.ref a0_, .ref a1_, .int x2_, .int x3_]) ++ List.replicate (4 - (lg_sl ([.ref a0_, .ref a1_, .int x2_, .int x3_])).length) Slot.unset).toArray = ls at hl ⊢
  have hl : lv_has ls 4 [(0, .ref a0_), (1, .ref a1_), (2, .int x2_), (3, .int x3_)] := hl
  refine W_q (fun Q hQ => ?_)
  refine lv_aload_n hx hb dX10_holds_0 rfl (lv_at hl 0 rfl) ?_
  refine g_getk (C := RX10) (T := TX10) (N := 10) hx hb hts (mc_ inX10) hown hK g rfl 1 (by decide) rfl (hts _ (List.mem_cons_of_mem _ t_913)) (fun _ h9 => h9) 0 rfl dX10_holds_1 ?_
  refine lv_aload_n hx hb dX10_holds_4 rfl (lv_at hl 0 rfl) ?_
  refine g_getr (K := 7) (C := RX10) (T := TX10) (N := 10) hx hb hts (mc_ inX10) hown hK g ma0_ ka0_ (by decide) rfl 0 (by decide) rfl (hts _ (List.mem_cons_of_mem _ t_912)) (fun _ h9 => h9) rfl dX10_holds_5 (fun a_1 ma_1 ka_1 g => ?_)
  refine g_getr (K := 141) (C := RX7) (T := TX7) (N := 19) hx hb hts (mc_ inX7) hown hK g ma_1 ka_1 (by decide) rfl 8 (by decide) rfl (hts _ (List.mem_cons_of_mem _ t_652)) (fun _ h9 => h9) rfl dX10_holds_8 (fun a_2 ma_2 ka_2 g => ?_)
  refine lv_iload_n hx hb dX10_holds_11 rfl (lv_at hl 2 rfl) ?_
  refine g_iald hx hb hK g ma_2 ka_2 (by decide) rfl (in_bd bx2_ (by decide)) dX10_holds_12 (fun x_3 bx_3 cx_3 => ?_)
  refine lv_aload_n hx hb dX10_holds_13 rfl (lv_at hl 1 rfl) ?_
  refine g_geti (C := RX4) (T := TX4) (N := 17) hx hb hts (mc_ inX4) hown hK g ma1_ ka1_ (by decide) rfl 16 (by decide) rfl (hts _ (List.mem_cons_of_mem _ t_876)) (fun _ h9 => h9) rfl dX10_holds_14 (fun x_4 bx_4 g => ?_)
  have go_ := g
  refine g_callv (va_runV (As := [.int x_3, .int x_4]) (rest := []) ⟨hx, hb, hml, hown, hts⟩ (r_X1_readyToAsk l dC dI L kd tys f0 s.heap.size g.2.2.2.1 q0_ mq0_ kq0_ x_3 x_4) (cwV 2 hts (gV_ t_1551 t_1552 t_1553 t_195 t_1554) rfl rfl rfl (by decide +kernel) ⟨(Nat.le_of_ble_eq_true rfl), (Nat.le_of_ble_eq_true rfl)⟩) (pre3V g hK mq0_ kq0_ (by decide) (q := (RX1, TX1, 18)) rfl) rfl rfl hl.1 rfl (lv_room (Nat.le_of_ble_eq_true rfl)) dX10_holds_17 ⟨(Nat.le_of_ble_eq_true rfl), (Nat.le_of_ble_eq_true rfl)⟩) g hK (by decide) (by decide) (fx' := [(4, 16, a1_, .int x_4), (7, 8, a_1, .ref a_2), (10, 0, a0_, .ref a_1), (10, 1, a0_, .ref q0_), (1, 0, q0_, .ref q1_), (1, 1, q0_, .ref q2_), (4, 15, a1_, .int y0_), (4, 0, a1_, .int y1_), (7, 1, q1_, .int y2_), (4, 6, a1_, .int y3_), (4, 14, a1_, .int y4_)]) rfl (fun fr_5 H locs hp hMr_5 g => ?_)
  have hG_6 := cOK.frame hMr_5 go_.2.2.2.1 mq1_ kq1_ (by decide) (by decide) hGq1_
  have hF_7 := hp
  have g := g.more hF_7
  refine lv_aload_n hx hb dX10_holds_20 rfl (lv_at hl 0 rfl) ?_
  refine g_getk (C := RX10) (T := TX10) (N := 10) hx hb hts (mc_ inX10) hown hK g rfl 1 (by decide) rfl (hts _ (List.mem_cons_of_mem _ t_913)) (fun _ h9 => h9) 5 rfl dX10_holds_21 ?_
  have kb_0 : bd 0 0 (0 : Int32) := ⟨by decide, by decide⟩
  have kb_1 : bd 1 1 (1 : Int32) := ⟨by decide, by decide⟩
  have go_ := g
  refine g_callv (va_runV (As := []) (rest := []) ⟨hx, hb, hml, hown, hts⟩ (r_X1_go_2 l dC dI L kd tys fr_5 H.size g.2.2.2.1 q0_ mq0_ kq0_ q1_ mq1_ kq1_ q2_ mq2_ kq2_ 0 kb_0 1 kb_1 y2_ by2_ hG_6 (g.fcts [6, 7, 0, 1, 10] rfl)) (cwV 0 hts (gV_ t_1555 t_1556 t_1557 t_195 t_1558) rfl rfl rfl (by decide +kernel) ⟨(Nat.le_of_ble_eq_true rfl), (Nat.le_of_ble_eq_true rfl)⟩) (pre3V g hK mq0_ kq0_ (by decide) (q := (RX1, TX1, 18)) rfl) rfl rfl hl.1 rfl (lv_room (Nat.le_of_ble_eq_true rfl)) dX10_holds_24 ⟨(Nat.le_of_ble_eq_true rfl), (Nat.le_of_ble_eq_true rfl)⟩) g hK (by decide) (by decide) (fx' := [(1, 12, q0_, .int 0), (1, 5, q0_, .int 1), (4, 16, a1_, .int x_4), (7, 8, a_1, .ref a_2), (10, 0, a0_, .ref a_1), (10, 1, a0_, .ref q0_), (1, 0, q0_, .ref q1_), (1, 1, q0_, .ref q2_), (4, 15, a1_, .int y0_), (4, 0, a1_, .int y1_), (7, 1, q1_, .int y2_), (4, 6, a1_, .int y3_), (4, 14, a1_, .int y4_)]) rfl (fun fr_8 H locs hp hMr_8 g => ?_)
  have hG_9 := cOK.frame hMr_8 go_.2.2.2.1 mq1_ kq1_ (by decide) (by decide) hG_6
  refine lv_aload_n hx hb dX10_holds_27 rfl (lv_at hl 0 rfl) ?_
  refine g_getk (C := RX10) (T := TX10) (N := 10) hx hb hts (mc_ inX10) hown hK g rfl 1 (by decide) rfl (hts _ (List.mem_cons_of_mem _ t_913)) (fun _ h9 => h9) 5 rfl dX10_holds_28 ?_
  refine g_geti (C := RX1) (T := TX1) (N := 18) hx hb hts (mc_ inX1) hown hK g mq0_ kq0_ (by decide) rfl 15 (by decide) rfl (hts _ (List.mem_cons_of_mem _ t_751)) (fun _ h9 => h9) rfl dX10_holds_31 (fun x_10 bx_10 g => ?_)
  refine lv_iconst (v := 1) hx hb dX10_holds_34 (by decide) ?_
  refine lv_icmp_ne (tgt := 54) hx hb dX10_holds_35 (by decide) (fun c_11 => ?_) (fun c_11 => ?_)
  · have fc_11 := neq_f c_11
    refine lv_aload_n hx hb dX10_holds_54 rfl (lv_at hl 0 rfl) ?_
    refine g_getk (C := RX10) (T := TX10) (N := 10) hx hb hts (mc_ inX10) hown hK g rfl 1 (by decide) rfl (hts _ (List.mem_cons_of_mem _ t_913)) (fun _ h9 => h9) 6 rfl dX10_holds_55 ?_
    refine g_getk (C := RX1) (T := TX1) (N := 18) hx hb hts (mc_ inX1) hown hK g rfl 15 (by decide) rfl (hts _ (List.mem_cons_of_mem _ t_751)) (fun _ h9 => h9) 0 rfl dX10_holds_58 ?_
    refine lv_iconst (v := 2) hx hb dX10_holds_61 (by decide) ?_
    have kb_2 : bd 2 2 (2 : Int32) := ⟨by decide, by decide⟩
    refine lv_icmp_ne (tgt := 76) hx hb dX10_holds_62 (by decide) (fun c_12 => ?_) (fun c_12 => ?_)
    · have fc_12 := neq_f c_12
      refine lv_aload_n hx hb dX10_holds_76 rfl (lv_at hl 1 rfl) ?_
      refine lv_aload_n hx hb dX10_holds_77 rfl (lv_at hl 0 rfl) ?_
      refine g_getk (C := RX10) (T := TX10) (N := 10) hx hb hts (mc_ inX10) hown hK g rfl 1 (by decide) rfl (hts _ (List.mem_cons_of_mem _ t_913)) (fun _ h9 => h9) 6 rfl dX10_holds_78 ?_
      refine g_getk (C := RX1) (T := TX1) (N := 18) hx hb hts (mc_ inX1) hown hK g rfl 15 (by decide) rfl (hts _ (List.mem_cons_of_mem _ t_751)) (fun _ h9 => h9) 0 rfl dX10_holds_81 ?_
      refine lv_iconst (v := 4) hx hb dX10_holds_84 (by decide) ?_
      have kb_4 : bd 4 4 (4 : Int32) := ⟨by decide, by decide⟩
      refine lv_icmp_ne (tgt := 92) hx hb dX10_holds_85 (by decide) (fun c_13 => ?_) (fun c_13 => ?_)
      · have fc_13 := neq_f c_13
        refine lv_bipush (v := 7) hx hb dX10_holds_92 (by decide) ?_
        refine lv_iload_n hx hb dX10_holds_94 rfl (lv_at hl 2 rfl) ?_
        refine lv_iload_n hx hb dX10_holds_95 rfl (lv_at hl 3 rfl) ?_
        have go_ := g
        refine g_callv (va_runV (As := [.int 7, .int x2_, .int x3_]) (rest := []) ⟨hx, hb, hml, hown, hts⟩ (r_X4_breakBy l dC dI L kd tys fr_8 H.size g.2.2.2.1 a1_ ma1_ ka1_ 7 x2_ x3_) (cwV 3 hts (gV_ t_1606 t_1607 t_1608 t_197 t_1609) rfl rfl rfl (by decide +kernel) ⟨(Nat.le_of_ble_eq_true rfl), (Nat.le_of_ble_eq_true rfl)⟩) (pre3V g hK ma1_ ka1_ (by decide) (q := (RX4, TX4, 17)) rfl) rfl rfl hl.1 rfl (lv_room (Nat.le_of_ble_eq_true rfl)) dX10_holds_96 ⟨(Nat.le_of_ble_eq_true rfl), (Nat.le_of_ble_eq_true rfl)⟩) g hK (by decide) (by decide) (fx' := [(1, 15, q0_, .int x_10), (1, 12, q0_, .int 0), (1, 5, q0_, .int 1), (4, 16, a1_, .int x_4), (7, 8, a_1, .ref a_2), (10, 0, a0_, .ref a_1), (10, 1, a0_, .ref q0_), (1, 0, q0_, .ref q1_), (1, 1, q0_, .ref q2_), (4, 15, a1_, .int y0_), (7, 1, q1_, .int y2_), (4, 6, a1_, .int y3_), (4, 14, a1_, .int y4_)]) rfl (fun fr_14 H locs hp hMr_14 g => ?_)
        have hG_15 := cOK.frame hMr_14 go_.2.2.2.1 mq1_ kq1_ (by decide) (by decide) hG_9
        refine lv_iconst (v := 0) hx hb dX10_holds_99 (by decide) ?_
        subst hQ
        exact W.zret (v := 0) hx hb hr (nar_z (bd_sub kb_0 (by decide) : bd 0 1 _).1 (bd_sub kb_0 (by decide) : bd 0 1 _).2) (fun t ht hW => ⟨⟨_, _, rfl, Or.inl ⟨rfl, (g.fcts [1, 2] rfl)⟩, q3_of g hK ht hW⟩, g.2.2.1.F ht⟩) g.2.2.1.2.2 dX10_holds_100
      · have fc_13 := eq_f c_13
        have b_16 : bd 4 4 x_10 := eqX fc_13 (bdT x_10) kb_4 (by decide)
        refine lv_iconst (v := 5) hx hb dX10_holds_88 (by decide) ?_
        refine lv_goto (tgt := 94) hx hb dX10_holds_89 (by decide) ?_
        refine lv_iload_n hx hb dX10_holds_94 rfl (lv_at hl 2 rfl) ?_
        refine lv_iload_n hx hb dX10_holds_95 rfl (lv_at hl 3 rfl) ?_
        have go_ := g
        refine g_callv (va_runV (As := [.int 5, .int x2_, .int x3_]) (rest := []) ⟨hx, hb, hml, hown, hts⟩ (r_X4_breakBy l dC dI L kd tys fr_8 H.size g.2.2.2.1 a1_ ma1_ ka1_ 5 x2_ x3_) (cwV 3 hts (gV_ t_1606 t_1607 t_1608 t_197 t_1609) rfl rfl rfl (by decide +kernel) ⟨(Nat.le_of_ble_eq_true rfl), (Nat.le_of_ble_eq_true rfl)⟩) (pre3V g hK ma1_ ka1_ (by decide) (q := (RX4, TX4, 17)) rfl) rfl rfl hl.1 rfl (lv_room (Nat.le_of_ble_eq_true rfl)) dX10_holds_96 ⟨(Nat.le_of_ble_eq_true rfl), (Nat.le_of_ble_eq_true rfl)⟩) g hK (by decide) (by decide) (fx' := [(1, 15, q0_, .int x_10), (1, 12, q0_, .int 0), (1, 5, q0_, .int 1), (4, 16, a1_, .int x_4), (7, 8, a_1, .ref a_2), (10, 0, a0_, .ref a_1), (10, 1, a0_, .ref q0_), (1, 0, q0_, .ref q1_), (1, 1, q0_, .ref q2_), (4, 15, a1_, .int y0_), (7, 1, q1_, .int y2_), (4, 6, a1_, .int y3_), (4, 14, a1_, .int y4_)]) rfl (fun fr_17 H locs hp hMr_17 g => ?_)
        have hG_18 := cOK.frame hMr_17 go_.2.2.2.1 mq1_ kq1_ (by decide) (by decide) hG_9
        refine lv_iconst (v := 0) hx hb dX10_holds_99 (by decide) ?_
        subst hQ
        exact W.zret (v := 0) hx hb hr (nar_z (bd_sub kb_0 (by decide) : bd 0 1 _).1 (bd_sub kb_0 (by decide) : bd 0 1 _).2) (fun t ht hW => ⟨⟨_, _, rfl, Or.inl ⟨rfl, (g.fcts [1, 2] rfl)⟩, q3_of g hK ht hW⟩, g.2.2.1.F ht⟩) g.2.2.1.2.2 dX10_holds_100
    · have fc_12 := eq_f c_12
      have b_19 : bd 2 2 x_10 := eqX fc_12 (bdT x_10) kb_2 (by decide)
      refine lv_aload_n hx hb dX10_holds_65 rfl (lv_at hl 1 rfl) ?_
      refine lv_aload_n hx hb dX10_holds_66 rfl (lv_at hl 0 rfl) ?_
      refine g_getk (C := RX10) (T := TX10) (N := 10) hx hb hts (mc_ inX10) hown hK g rfl 1 (by decide) rfl (hts _ (List.mem_cons_of_mem _ t_913)) (fun _ h9 => h9) 6 rfl dX10_holds_67 ?_
      refine g_getl (C := RX1) (T := TX1) (N := 18) hx hb hts (mc_ inX1) hown hK g mq0_ kq0_ (by decide) rfl 17 (by decide) rfl (hts _ (List.mem_cons_of_mem _ t_755)) (fun _ h9 => h9) rfl dX10_holds_70 (fun x_20 g => ?_)
      have go_ := g
      refine g_put (C := RX4) (T := TX4) (N := 17) hx hb hts (mc_ inX4) tyX4 tyX4_ok nmX4 hown hK g ma1_ ka1_ (by decide) rfl 5 (by decide) (hts _ (List.mem_cons_of_mem _ t_848)) (fun _ h9 => h9) rfl rfl okV_l rfl rfl (by decide) (Or.inr (Or.inl (by decide))) (fx' := [(1, 17, q0_, .long x_20), (1, 15, q0_, .int x_10), (1, 12, q0_, .int 0), (1, 5, q0_, .int 1), (4, 16, a1_, .int x_4), (7, 8, a_1, .ref a_2), (10, 0, a0_, .ref a_1), (10, 1, a0_, .ref q0_), (1, 0, q0_, .ref q1_), (1, 1, q0_, .ref q2_), (4, 15, a1_, .int y0_), (4, 0, a1_, .int y1_), (7, 1, q1_, .int y2_), (4, 6, a1_, .int y3_), (4, 14, a1_, .int y4_)]) rfl dX10_holds_73 (fun f H locs hM_21 g => ?_)
      have hG_22 := cOK.frame hM_21 go_.2.2.2.1 mq1_ kq1_ (by decide) (by decide) hG_9
      refine lv_aload_n hx hb dX10_holds_76 rfl (lv_at hl 1 rfl) ?_
      refine lv_aload_n hx hb dX10_holds_77 rfl (lv_at hl 0 rfl) ?_
      refine g_getk (C := RX10) (T := TX10) (N := 10) hx hb hts (mc_ inX10) hown hK g rfl 1 (by decide) rfl (hts _ (List.mem_cons_of_mem _ t_913)) (fun _ h9 => h9) 8 rfl dX10_holds_78 ?_
      refine g_getk (C := RX1) (T := TX1) (N := 18) hx hb hts (mc_ inX1) hown hK g rfl 15 (by decide) rfl (hts _ (List.mem_cons_of_mem _ t_751)) (fun _ h9 => h9) 2 rfl dX10_holds_81 ?_
      refine lv_iconst (v := 4) hx hb dX10_holds_84 (by decide) ?_
      have kb_4 : bd 4 4 (4 : Int32) := ⟨by decide, by decide⟩
      refine lv_icmp_ne (tgt := 92) hx hb dX10_holds_85 (by decide) (fun c_23 => ?_) (fun c_23 => ?_)
      · have fc_23 := neq_f c_23
        refine lv_bipush (v := 7) hx hb dX10_holds_92 (by decide) ?_
        refine lv_iload_n hx hb dX10_holds_94 rfl (lv_at hl 2 rfl) ?_
        refine lv_iload_n hx hb dX10_holds_95 rfl (lv_at hl 3 rfl) ?_
        have go_ := g
        refine g_callv (va_runV (As := [.int 7, .int x2_, .int x3_]) (rest := []) ⟨hx, hb, hml, hown, hts⟩ (r_X4_breakBy l dC dI L kd tys f H.size g.2.2.2.1 a1_ ma1_ ka1_ 7 x2_ x3_) (cwV 3 hts (gV_ t_1606 t_1607 t_1608 t_197 t_1609) rfl rfl rfl (by decide +kernel) ⟨(Nat.le_of_ble_eq_true rfl), (Nat.le_of_ble_eq_true rfl)⟩) (pre3V g hK ma1_ ka1_ (by decide) (q := (RX4, TX4, 17)) rfl) rfl rfl hl.1 rfl (lv_room (Nat.le_of_ble_eq_true rfl)) dX10_holds_96 ⟨(Nat.le_of_ble_eq_true rfl), (Nat.le_of_ble_eq_true rfl)⟩) g hK (by decide) (by decide) (fx' := [(4, 5, a1_, .long x_20), (1, 17, q0_, .long x_20), (1, 15, q0_, .int x_10), (1, 12, q0_, .int 0), (1, 5, q0_, .int 1), (4, 16, a1_, .int x_4), (7, 8, a_1, .ref a_2), (10, 0, a0_, .ref a_1), (10, 1, a0_, .ref q0_), (1, 0, q0_, .ref q1_), (1, 1, q0_, .ref q2_), (4, 15, a1_, .int y0_), (7, 1, q1_, .int y2_), (4, 6, a1_, .int y3_), (4, 14, a1_, .int y4_)]) rfl (fun fr_24 H locs hp hMr_24 g => ?_)
        have hG_25 := cOK.frame hMr_24 go_.2.2.2.1 mq1_ kq1_ (by decide) (by decide) hG_22
        refine lv_iconst (v := 0) hx hb dX10_holds_99 (by decide) ?_
        subst hQ
        exact W.zret (v := 0) hx hb hr (nar_z (bd_sub kb_0 (by decide) : bd 0 1 _).1 (bd_sub kb_0 (by decide) : bd 0 1 _).2) (fun t ht hW => ⟨⟨_, _, rfl, Or.inl ⟨rfl, (g.fcts [3, 4] rfl)⟩, q3_of g hK ht hW⟩, g.2.2.1.F ht⟩) g.2.2.1.2.2 dX10_holds_100
      · have fc_23 := eq_f c_23
        have b_26 : bd 4 2 x_10 := eqX fc_23 b_19 kb_4 (by decide)
        exact bd_no b_26 (by decide)
  · have fc_11 := eq_f c_11
    have b_27 : bd 1 1 x_10 := eqX fc_11 (bdT x_10) kb_1 (by decide)
    refine lv_aload_n hx hb dX10_holds_38 rfl (lv_at hl 0 rfl) ?_
    refine g_getk (C := RX10) (T := TX10) (N := 10) hx hb hts (mc_ inX10) hown hK g rfl 1 (by decide) rfl (hts _ (List.mem_cons_of_mem _ t_913)) (fun _ h9 => h9) 6 rfl dX10_holds_39 ?_
    refine g_geti (C := RX1) (T := TX1) (N := 18) hx hb hts (mc_ inX1) hown hK g mq0_ kq0_ (by decide) rfl 16 (by decide) rfl (hts _ (List.mem_cons_of_mem _ t_753)) (fun _ h9 => h9) rfl dX10_holds_42 (fun x_28 bx_28 g => ?_)
    refine lv_if_eq (tgt := 52) hx hb dX10_holds_45 (by decide) (fun c_29 => ?_) (fun c_29 => ?_)
    · have fc_29 := eq_f c_29
      have b_30 : bd 0 0 x_28 := eqX fc_29 (bdT x_28) kb_0 (by decide)
      refine lv_iconst (v := 0) hx hb dX10_holds_52 (by decide) ?_
      subst hQ
      exact W.zret (v := 0) hx hb hr (nar_z (bd_sub kb_0 (by decide) : bd 0 1 _).1 (bd_sub kb_0 (by decide) : bd 0 1 _).2) (fun t ht hW => ⟨⟨_, _, rfl, Or.inl ⟨rfl, (g.fcts [2, 3] rfl)⟩, q3_of g hK ht hW⟩, g.2.2.1.F ht⟩) g.2.2.1.2.2 dX10_holds_53
    · have fc_29 := neq_f c_29
      refine lv_iconst (v := 1) hx hb dX10_holds_48 (by decide) ?_
      refine lv_goto (tgt := 53) hx hb dX10_holds_49 (by decide) ?_
      subst hQ
      exact W.zret (v := 1) hx hb hr (nar_z (bd_sub kb_1 (by decide) : bd 0 1 _).1 (bd_sub kb_1 (by decide) : bd 0 1 _).2) (fun t ht hW => ⟨⟨_, _, rfl, Or.inr (⟨rfl, x_10, b_27, y1_, by1_, (g.fcts [1, 2, 3, 11] rfl)⟩), q3_of g hK ht hW⟩, g.2.2.1.F ht⟩) g.2.2.1.2.2 dX10_holds_53
set_option maxHeartbeats 4000000 in
set_option maxRecDepth 100000 in
theorem r_X10_askGives (l : Launch) (dC : Nat → ClassId) (dI : Nat → Nat → Nat) (L : List Nat) (kd : Nat → Nat) (tys : List (ClassId × FieldType)) (f0 : Nat → va_E) (sz : Nat) (hWT : WT L kd tys f0) (a0_ : Nat) (ma0_ : a0_ ∈ L) (ka0_ : kd a0_ = 10) (a1_ : Nat) (ma1_ : a1_ ∈ L) (ka1_ : kd a1_ = 4) (x2_ : Int32) (bx2_ : bd 0 2 x2_) (x3_ : Int32) (bx3_ : bd 0 95 x3_) (q0_ : Nat) (mq0_ : q0_ ∈ L) (kq0_ : kd q0_ = 1) (q1_ : Nat) (mq1_ : q1_ ∈ L) (kq1_ : kd q1_ = 7) (q2_ : Nat) (mq2_ : q2_ ∈ L) (kq2_ : kd q2_ = 9) (y0_ : Int32) (by0_ : bd 1 8 y0_) (y1_ : Int32) (by1_ : bd 1 3 y1_) (y2_ : Int32) (by2_ : bd 0 9 y2_) (hGq1_ : cOK f0 q1_) (hfx : Fs L kd f0 [(10, 1, a0_, .ref q0_), (1, 0, q0_, .ref q1_), (1, 1, q0_, .ref q2_), (7, 1, q1_, .int y0_), (4, 6, a1_, .int y1_), (4, 14, a1_, .int y2_)]) : Met l yX10_askGives (.code yX10_askGives cX10_askGives 8 none :: lw_g) ({ frames := 3, cells := 0, slots := 0, locals := 73 }) (va_Pc [.ref a0_, .ref a1_, .int x2_, .int x3_] (P3 (dC, dI) L tys f0 sz)) (va_Qv (fun (f : Nat → va_E) => (True)) (Q3 (dC, dI) L kd tys [(1, 5), (1, 6), (1, 8), (1, 11), (1, 12), (1, 13), (1, 14), (1, 15), (1, 16), (1, 17), (4, 0), (4, 1), (4, 2), (4, 5)] [100, 116, 117, 146] f0 sz) (pA L sz)) 0 0 (pA L sz) := by
  refine Met.ofW (cc := cX10_askGives) (maxL := 8) (ret := none) (by decide) rfl ?_
  intro p e s m args below meth c s₁ B hml hv
  obtain ⟨rfl, hsz, hP, hK, hD0⟩ := hv
  have hx := B.exec
  have hb := B.bytes
  have hr := B.returns
  have hts := atoms_spec (ws := (.code yX10_askGives cX10_askGives 8 none :: lw_g)) B.pre
  have hown : s.vm.findClass RX10 = some m.cls := findClass_of_methodNamed B.named
  have hlocks := B.notSynchronized
  subst hsz
  have g : G3 (dC, dI) L kd tys s f0 [(1, 5), (1, 6), (1, 8), (1, 11), (1, 12), (1, 13), (1, 14), (1, 15), (1, 16), (1, 17), (4, 0), (4, 1), (4, 2), (4, 5)] [100, 116, 117, 146] f0 s.heap [] [(10, 1, a0_, .ref q0_), (1, 0, q0_, .ref q1_), (1, 1, q0_, .ref q2_), (7, 1, q1_, .int y0_), (4, 6, a1_, .int y1_), (4, 14, a1_, .int y2_)] := G3.start hP hD0 hWT hfx
  have hl := lv_entry ([.ref a0_, .ref a1_, .int x2_, .int x3_]) (n := 8) (Nat.le_of_ble_eq_true rfl)
  rw [lg_entry_eq]
  generalize (lg_sl ([.ref a0_, .ref a1_, .int x2_, .int x3_]) ++ List.replicate (8 - (lg_sl ([.ref a0_, .ref a1_, .int x2_, .int x3_])).length) Slot.unset).toArray = ls at hl ⊢
  have hl : lv_has ls 8 [(0, .ref a0_), (1, .ref a1_), (2, .int x2_), (3, .int x3_)] := hl
  refine W_q (fun Q hQ => ?_)
  refine lv_aload_n hx hb dX10_askGives_0 rfl (lv_at hl 1 rfl) ?_
  refine g_geti (C := RX4) (T := TX4) (N := 17) hx hb hts (mc_ inX4) hown hK g ma1_ ka1_ (by decide) rfl 0 (by decide) rfl (hts _ (List.mem_cons_of_mem _ t_837)) (fun _ h9 => h9) rfl dX10_askGives_1 (fun x_1 bx_1 g => ?_)
  have kb_0 : bd 0 0 (0 : Int32) := ⟨by decide, by decide⟩
  refine lv_if_ne (tgt := 15) hx hb dX10_askGives_4 (by decide) (fun c_2 => ?_) (fun c_2 => ?_)
  · have fc_2 := neq_f c_2
    subst hQ
    exact W.vret hx hb hr (fun t ht hW => ⟨⟨_, rfl, trivial, q3_of g hK ht hW⟩, g.2.2.1.F ht⟩) g.2.2.1.2.2 dX10_askGives_15
  · have fc_2 := eq_f c_2
    have b_3 : bd 0 0 x_1 := eqX fc_2 (bdT x_1) kb_0 (by decide)
    refine lv_aload_n hx hb dX10_askGives_7 rfl (lv_at hl 1 rfl) ?_
    refine g_geti (C := RX4) (T := TX4) (N := 17) hx hb hts (mc_ inX4) hown hK g ma1_ ka1_ (by decide) rfl 15 (by decide) rfl (hts _ (List.mem_cons_of_mem _ t_875)) (fun _ h9 => h9) rfl dX10_askGives_8 (fun x_4 bx_4 g => ?_)
    refine lv_iconst (v := 1) hx hb dX10_askGives_11 (by decide) ?_
    have kb_1 : bd 1 1 (1 : Int32) := ⟨by decide, by decide⟩
    refine lv_icmp_eq (tgt := 16) hx hb dX10_askGives_12 (by decide) (fun c_5 => ?_) (fun c_5 => ?_)
    · have fc_5 := eq_f c_5
      have b_6 : bd 1 1 x_4 := eqX fc_5 (bdT x_4) kb_1 (by decide)
      refine lv_iload_n hx hb dX10_askGives_16 rfl (lv_at hl 3 rfl) ?_
      refine lv_istore (lv' := [(4, .int x3_), (0, .ref a0_), (1, .ref a1_), (2, .int x2_), (3, .int x3_)]) hx hb dX10_askGives_17 hl (by decide) rfl (fun ls hl => ?_)
      refine lv_iconst (v := 0) hx hb dX10_askGives_19 (by decide) ?_
      refine lv_istore (lv' := [(5, .int 0), (4, .int x3_), (0, .ref a0_), (1, .ref a1_), (2, .int x2_), (3, .int x3_)]) hx hb dX10_askGives_20 hl (by decide) rfl (fun ls hl => ?_)
      have loop_7 : ∀ (n : Nat) (v22_5 : Int32) (v22_4 : Int32) (w22_4_0_a1_ : Int32), bd 0 8 v22_5 → bd (-1) 95 v22_4 → bd 0 0 w22_4_0_a1_ → (8 - v22_5.toInt < (n : Int)) → ∀ (f : Nat → va_E) (H : Heap) (locs : List Loc) (ls : Array Slot), G3 (dC, dI) L kd tys s f0 [(1, 5), (1, 6), (1, 8), (1, 11), (1, 12), (1, 13), (1, 14), (1, 15), (1, 16), (1, 17), (4, 0), (4, 1), (4, 2), (4, 5)] [100, 116, 117, 146] f H locs [(4, 15, a1_, .int x_4), (4, 0, a1_, .int w22_4_0_a1_), (10, 1, a0_, .ref q0_), (1, 0, q0_, .ref q1_), (1, 1, q0_, .ref q2_), (7, 1, q1_, .int y0_), (4, 6, a1_, .int y1_), (4, 14, a1_, .int y2_)] → cOK f q1_ → lv_has ls 8 [(5, .int v22_5), (4, .int v22_4), (0, .ref a0_), (1, .ref a1_), (2, .int x2_), (3, .int x3_)] → W p l e ({ frames := 3, cells := 0, slots := 0, locals := 73 } : Room) s m [.ref a0_, .ref a1_, .int x2_, .int x3_].toArray below meth c H locs 0 0 Q (F0 m 22 ls []) := by
        intro n22
        induction n22 with
        | zero =>
          intro v22_5 v22_4 w22_4_0_a1_ bv22_5 bv22_4 bw22_4_0_a1_ hm22 f H locs ls g hG22_q1_ hl
          exact absurd hm22 (by have h9_v22_5 := bv22_5; unfold bd at h9_v22_5; have h9_v22_4 := bv22_4; unfold bd at h9_v22_4; have h9_w22_4_0_a1_ := bw22_4_0_a1_; unfold bd at h9_w22_4_0_a1_; omega)
        | succ n22 ih22 =>
          intro v22_5 v22_4 w22_4_0_a1_ bv22_5 bv22_4 bw22_4_0_a1_ hm22 f H locs ls g hG22_q1_ hl
          refine lv_iload hx hb dX10_askGives_22 (lv_at hl 0 rfl) ?_
          refine lv_bipush (v := 8) hx hb dX10_askGives_24 (by decide) ?_
          have kb_8 : bd 8 8 (8 : Int32) := ⟨by decide, by decide⟩
          refine lv_icmp_ge (tgt := 133) hx hb dX10_askGives_26 (by decide) (fun c_8 => ?_) (fun c_8 => ?_)
          · have fc_8 := le_f c_8
            have b_9 : bd 8 8 v22_5 := leR fc_8 kb_8 bv22_5 (by decide)
            subst hQ
            exact W.vret hx hb hr (fun t ht hW => ⟨⟨_, rfl, trivial, q3_of g hK ht hW⟩, g.2.2.1.F ht⟩) g.2.2.1.2.2 dX10_askGives_133
          · have fc_8 := nle_f c_8
            have b_10 : bd 0 7 v22_5 := ltL fc_8 bv22_5 kb_8 (by decide)
            refine lv_iload hx hb dX10_askGives_29 (lv_at hl 1 rfl) ?_
            refine lv_iconst (v := (-1)) hx hb dX10_askGives_31 (by decide) ?_
            have kb_m1 : bd (-1) (-1) ((-1) : Int32) := ⟨by decide, by decide⟩
            refine lv_icmp_eq (tgt := 133) hx hb dX10_askGives_32 (by decide) (fun c_11 => ?_) (fun c_11 => ?_)
            · have fc_11 := eq_f c_11
              have b_12 : bd (-1) (-1) v22_4 := eqX fc_11 bv22_4 kb_m1 (by decide)
              subst hQ
              exact W.vret hx hb hr (fun t ht hW => ⟨⟨_, rfl, trivial, q3_of g hK ht hW⟩, g.2.2.1.F ht⟩) g.2.2.1.2.2 dX10_askGives_133
            · have fc_11 := neq_f c_11
              have b_13 : bd 0 95 v22_4 := neX fc_11 bv22_4 kb_m1 (by decide)
              refine lv_aload_n hx hb dX10_askGives_35 rfl (lv_at hl 2 rfl) ?_
              refine lv_iload hx hb dX10_askGives_36 (lv_at hl 1 rfl) ?_
              have go_ := g
              refine g_calli (va_runV (As := [.int v22_4]) (rest := []) ⟨hx, hb, hml, hown, hts⟩ (r_X10_lastMark l dC dI L kd tys f H.size g.2.2.2.1 a0_ ma0_ ka0_ v22_4 b_13) (cwV 1 hts (gV_ t_1620 t_1622 t_71 t_194 t_1623) rfl rfl rfl (by decide +kernel) ⟨(Nat.le_of_ble_eq_true rfl), (Nat.le_of_ble_eq_true rfl)⟩) (pre3V g hK ma0_ ka0_ (by decide) (q := (RX10, TX10, 10)) rfl) rfl rfl hl.1 rfl (lv_room (Nat.le_of_ble_eq_true rfl)) dX10_askGives_38 ⟨(Nat.le_of_ble_eq_true rfl), (Nat.le_of_ble_eq_true rfl)⟩) g hK (by decide) (by decide) (fx' := [(4, 15, a1_, .int x_4), (4, 0, a1_, .int w22_4_0_a1_), (10, 1, a0_, .ref q0_), (1, 0, q0_, .ref q1_), (1, 1, q0_, .ref q2_), (7, 1, q1_, .int y0_), (4, 6, a1_, .int y1_), (4, 14, a1_, .int y2_)]) rfl (fun r_14 fr_14 H locs hp hMr_14 g => ?_)
              have hG_15 := cOK.frame hMr_14 go_.2.2.2.1 mq1_ kq1_ (by decide) (by decide) hG22_q1_
              obtain ⟨h_16, -⟩ := hp
              refine lv_istore (lv' := [(6, .int r_14), (5, .int v22_5), (4, .int v22_4), (0, .ref a0_), (1, .ref a1_), (2, .int x2_), (3, .int x3_)]) hx hb dX10_askGives_41 hl (by decide) rfl (fun ls hl => ?_)
              refine lv_aload_n hx hb dX10_askGives_43 rfl (lv_at hl 3 rfl) ?_
              refine g_getr (K := 7) (C := RX10) (T := TX10) (N := 10) hx hb hts (mc_ inX10) hown hK g ma0_ ka0_ (by decide) rfl 0 (by decide) rfl (hts _ (List.mem_cons_of_mem _ t_912)) (fun _ h9 => h9) rfl dX10_askGives_44 (fun a_17 ma_17 ka_17 g => ?_)
              refine g_getr (K := 137) (C := RX7) (T := TX7) (N := 19) hx hb hts (mc_ inX7) hown hK g ma_17 ka_17 (by decide) rfl 2 (by decide) rfl (hts _ (List.mem_cons_of_mem _ t_634)) (fun _ h9 => h9) rfl dX10_askGives_47 (fun a_18 ma_18 ka_18 g => ?_)
              refine lv_iload hx hb dX10_askGives_50 (lv_at hl 2 rfl) ?_
              refine g_aald hx hb hK g ma_18 ka_18 (by decide) rfl (by decide) (in_bd b_13 (by decide)) dX10_askGives_52 (fun a_19 ma_19 ua_19 wa_19 => ?_)
              have ka_19 : kd a_19 = 6 := by omega
              refine g_geti (C := RX6) (T := TX6) (N := 13) hx hb hts (mc_ inX6) hown hK g ma_19 ka_19 (by decide) rfl 11 (by decide) rfl (hts _ (List.mem_cons_of_mem _ t_590)) (fun _ h9 => h9) rfl dX10_askGives_53 (fun x_20 bx_20 g => ?_)
              refine lv_istore (lv' := [(7, .int x_20), (6, .int r_14), (5, .int v22_5), (4, .int v22_4), (0, .ref a0_), (1, .ref a1_), (2, .int x2_), (3, .int x3_)]) hx hb dX10_askGives_56 hl (by decide) rfl (fun ls hl => ?_)
              have loop_21 : ∀ (n : Nat) (v58_7 : Int32) (w58_4_0_a1_ : Int32), bd 0 500 v58_7 → bd 0 0 w58_4_0_a1_ → (500 - v58_7.toInt < (n : Int)) → ∀ (f : Nat → va_E) (H : Heap) (locs : List Loc) (ls : Array Slot), G3 (dC, dI) L kd tys s f0 [(1, 5), (1, 6), (1, 8), (1, 11), (1, 12), (1, 13), (1, 14), (1, 15), (1, 16), (1, 17), (4, 0), (4, 1), (4, 2), (4, 5)] [100, 116, 117, 146] f H locs [(6, 11, a_19, .int x_20), (7, 2, a_17, .ref a_18), (10, 0, a0_, .ref a_17), (4, 15, a1_, .int x_4), (4, 0, a1_, .int w58_4_0_a1_), (10, 1, a0_, .ref q0_), (1, 0, q0_, .ref q1_), (1, 1, q0_, .ref q2_), (7, 1, q1_, .int y0_), (4, 6, a1_, .int y1_), (4, 14, a1_, .int y2_)] → cOK f q1_ → lv_has ls 8 [(7, .int v58_7), (6, .int r_14), (5, .int v22_5), (4, .int v22_4), (0, .ref a0_), (1, .ref a1_), (2, .int x2_), (3, .int x3_)] → W p l e ({ frames := 3, cells := 0, slots := 0, locals := 73 } : Room) s m [.ref a0_, .ref a1_, .int x2_, .int x3_].toArray below meth c H locs 0 0 Q (F0 m 58 ls []) := by
                intro n58
                induction n58 with
                | zero =>
                  intro v58_7 w58_4_0_a1_ bv58_7 bw58_4_0_a1_ hm58 f H locs ls g hG58_q1_ hl
                  exact absurd hm58 (by have h9_v58_7 := bv58_7; unfold bd at h9_v58_7; have h9_w58_4_0_a1_ := bw58_4_0_a1_; unfold bd at h9_w58_4_0_a1_; omega)
                | succ n58 ih58 =>
                  intro v58_7 w58_4_0_a1_ bv58_7 bw58_4_0_a1_ hm58 f H locs ls g hG58_q1_ hl
                  refine lv_iload hx hb dX10_askGives_58 (lv_at hl 0 rfl) ?_
                  refine lv_iload hx hb dX10_askGives_60 (lv_at hl 1 rfl) ?_
                  refine lv_icmp_gt (tgt := 119) hx hb dX10_askGives_62 (by decide) (fun c_22 => ?_) (fun c_22 => ?_)
                  · have fc_22 := lt_f c_22
                    refine lv_aload_n hx hb dX10_askGives_119 rfl (lv_at hl 4 rfl) ?_
                    refine lv_iload hx hb dX10_askGives_120 (lv_at hl 3 rfl) ?_
                    have go_ := g
                    refine g_calli (va_runV (As := [.int v22_4]) (rest := []) ⟨hx, hb, hml, hown, hts⟩ (r_X10_upwards l dC dI L kd tys f H.size g.2.2.2.1 a0_ ma0_ ka0_ v22_4) (cwV 1 hts (gV_ t_1625 t_1627 t_72 t_194 t_1628) rfl rfl rfl (by decide +kernel) ⟨(Nat.le_of_ble_eq_true rfl), (Nat.le_of_ble_eq_true rfl)⟩) (pre3V g hK ma0_ ka0_ (by decide) (q := (RX10, TX10, 10)) rfl) rfl rfl hl.1 rfl (lv_room (Nat.le_of_ble_eq_true rfl)) dX10_askGives_122 ⟨(Nat.le_of_ble_eq_true rfl), (Nat.le_of_ble_eq_true rfl)⟩) g hK (by decide) (by decide) (fx' := [(6, 11, a_19, .int x_20), (7, 2, a_17, .ref a_18), (10, 0, a0_, .ref a_17), (4, 15, a1_, .int x_4), (4, 0, a1_, .int w58_4_0_a1_), (10, 1, a0_, .ref q0_), (1, 0, q0_, .ref q1_), (1, 1, q0_, .ref q2_), (7, 1, q1_, .int y0_), (4, 6, a1_, .int y1_), (4, 14, a1_, .int y2_)]) rfl (fun r_23 fr_23 H locs hp hMr_23 g => ?_)
                    have hG_24 := cOK.frame hMr_23 go_.2.2.2.1 mq1_ kq1_ (by decide) (by decide) hG58_q1_
                    obtain ⟨h_25, -⟩ := hp
                    refine lv_istore (lv' := [(4, .int r_23), (7, .int v58_7), (6, .int r_14), (5, .int v22_5), (0, .ref a0_), (1, .ref a1_), (2, .int x2_), (3, .int x3_)]) hx hb dX10_askGives_125 hl (by decide) rfl (fun ls hl => ?_)
                    obtain ⟨y_26, ey_26⟩ : ∃ z : Int32, z = v22_5 + 1 := ⟨_, rfl⟩
                    refine lv_iinc (v := y_26) (lv' := [(5, .int y_26), (4, .int r_23), (7, .int v58_7), (6, .int r_14), (0, .ref a0_), (1, .ref a1_), (2, .int x2_), (3, .int x3_)]) hx hb dX10_askGives_127 hl (k := 3) rfl (by rw [ey_26]; rfl) (by decide) rfl (fun ls hl => ?_)
                    have ty_26 := add_bd ey_26 b_10 kb_1 (by decide)
                    have b_27 : bd 1 8 y_26 := add_rg ty_26 b_10 kb_1 (by decide)
                    refine lv_goto (tgt := 22) hx hb dX10_askGives_130 (by decide) ?_
                    have hl9 := lv_sub hl [0, 1, 4, 5, 6, 7] (by rfl : lv_pick [(5, .int y_26), (4, .int r_23), (7, .int v58_7), (6, .int r_14), (0, .ref a0_), (1, .ref a1_), (2, .int x2_), (3, .int x3_)] [0, 1, 4, 5, 6, 7] = [(5, .int y_26), (4, .int r_23), (0, .ref a0_), (1, .ref a1_), (2, .int x2_), (3, .int x3_)])
                    have g9 := g.sub (fx' := [(4, 15, a1_, .int x_4), (4, 0, a1_, .int w58_4_0_a1_), (10, 1, a0_, .ref q0_), (1, 0, q0_, .ref q1_), (1, 1, q0_, .ref q2_), (7, 1, q1_, .int y0_), (4, 6, a1_, .int y1_), (4, 14, a1_, .int y2_)]) [3, 4, 5, 6, 7, 8, 9, 10] rfl
                    exact ih22  y_26 r_23 w58_4_0_a1_ (bd_sub b_27 (by decide)) h_25 bw58_4_0_a1_ (by have h9_0 := b_27; unfold bd at h9_0; have h9_1 := bv22_4; unfold bd at h9_1; have h9_2 := bv22_5; unfold bd at h9_2; have h9_3 := bw22_4_0_a1_; unfold bd at h9_3; have h9_4 := bw58_4_0_a1_; unfold bd at h9_4; have h9_5 := h_25; unfold bd at h9_5; have h9_6 := kb_0; unfold bd at h9_6; have h9_7 := kb_1; unfold bd at h9_7; have h9_8 := kb_8; unfold bd at h9_8; have h9_9 := kb_m1; unfold bd at h9_9; omega) _ _ _ _ g9 hG_24 hl9
                  · have fc_22 := nlt_f c_22
                    have b_28 : bd 0 499 v58_7 := leL fc_22 bv58_7 h_16 (by decide)
                    have b_29 : bd 0 499 r_14 := leR fc_22 bv58_7 h_16 (by decide)
                    refine lv_aload_n hx hb dX10_askGives_65 rfl (lv_at hl 4 rfl) ?_
                    refine g_getk (C := RX10) (T := TX10) (N := 10) hx hb hts (mc_ inX10) hown hK g rfl 0 (by decide) rfl (hts _ (List.mem_cons_of_mem _ t_912)) (fun _ h9 => h9) 2 rfl dX10_askGives_66 ?_
                    refine g_getr (K := 140) (C := RX7) (T := TX7) (N := 19) hx hb hts (mc_ inX7) hown hK g ma_17 ka_17 (by decide) rfl 7 (by decide) rfl (hts _ (List.mem_cons_of_mem _ t_650)) (fun _ h9 => h9) rfl dX10_askGives_69 (fun a_30 ma_30 ka_30 g => ?_)
                    refine lv_iload hx hb dX10_askGives_72 (lv_at hl 0 rfl) ?_
                    refine g_iald hx hb hK g ma_30 ka_30 (by decide) rfl (in_bd b_28 (by decide)) dX10_askGives_74 (fun x_31 bx_31 cx_31 => ?_)
                    refine lv_iconst (v := 2) hx hb dX10_askGives_75 (by decide) ?_
                    have kb_2 : bd 2 2 (2 : Int32) := ⟨by decide, by decide⟩
                    refine lv_icmp_ne (tgt := 113) hx hb dX10_askGives_76 (by decide) (fun c_32 => ?_) (fun c_32 => ?_)
                    · have fc_32 := neq_f c_32
                      obtain ⟨y_33, ey_33⟩ : ∃ z : Int32, z = v58_7 + 1 := ⟨_, rfl⟩
                      refine lv_iinc (v := y_33) (lv' := [(7, .int y_33), (6, .int r_14), (5, .int v22_5), (4, .int v22_4), (0, .ref a0_), (1, .ref a1_), (2, .int x2_), (3, .int x3_)]) hx hb dX10_askGives_113 hl (k := 0) rfl (by rw [ey_33]; rfl) (by decide) rfl (fun ls hl => ?_)
                      have ty_33 := add_bd ey_33 b_28 kb_1 (by decide)
                      have b_34 : bd 1 500 y_33 := add_rg ty_33 b_28 kb_1 (by decide)
                      refine lv_goto (tgt := 58) hx hb dX10_askGives_116 (by decide) ?_
                      have hl9 := lv_sub hl [0, 1, 2, 3, 4, 5, 6, 7] (by rfl : lv_pick [(7, .int y_33), (6, .int r_14), (5, .int v22_5), (4, .int v22_4), (0, .ref a0_), (1, .ref a1_), (2, .int x2_), (3, .int x3_)] [0, 1, 2, 3, 4, 5, 6, 7] = [(7, .int y_33), (6, .int r_14), (5, .int v22_5), (4, .int v22_4), (0, .ref a0_), (1, .ref a1_), (2, .int x2_), (3, .int x3_)])
                      have g9 := g.sub (fx' := [(6, 11, a_19, .int x_20), (7, 2, a_17, .ref a_18), (10, 0, a0_, .ref a_17), (4, 15, a1_, .int x_4), (4, 0, a1_, .int w58_4_0_a1_), (10, 1, a0_, .ref q0_), (1, 0, q0_, .ref q1_), (1, 1, q0_, .ref q2_), (7, 1, q1_, .int y0_), (4, 6, a1_, .int y1_), (4, 14, a1_, .int y2_)]) [1, 2, 3, 4, 5, 6, 7, 8, 9, 10, 11] rfl
                      exact ih58  y_33 w58_4_0_a1_ (bd_sub b_34 (by decide)) bw58_4_0_a1_ (by have h9_0 := b_34; unfold bd at h9_0; have h9_1 := bv58_7; unfold bd at h9_1; have h9_2 := bw58_4_0_a1_; unfold bd at h9_2; have h9_3 := kb_0; unfold bd at h9_3; have h9_4 := kb_1; unfold bd at h9_4; have h9_5 := kb_2; unfold bd at h9_5; have h9_6 := kb_8; unfold bd at h9_6; have h9_7 := kb_m1; unfold bd at h9_7; omega) _ _ _ _ g9 hG58_q1_ hl9
                    · have fc_32 := eq_f c_32
                      have b_35 : bd 2 2 x_31 := eqX fc_32 (bdT x_31) kb_2 (by decide)
                      refine lv_aload_n hx hb dX10_askGives_79 rfl (lv_at hl 4 rfl) ?_
                      refine lv_aload_n hx hb dX10_askGives_80 rfl (lv_at hl 5 rfl) ?_
                      refine lv_iload hx hb dX10_askGives_81 (lv_at hl 0 rfl) ?_
                      refine lv_iload_n hx hb dX10_askGives_83 rfl (lv_at hl 6 rfl) ?_
                      have go_ := g
                      refine g_calli (va_runV (As := [.ref a1_, .int v58_7, .int x2_]) (rest := []) ⟨hx, hb, hml, hown, hts⟩ (r_X10_holds_8 l dC dI L kd tys f H.size g.2.2.2.1 a0_ ma0_ ka0_ a1_ ma1_ ka1_ v58_7 b_28 x2_ bx2_ q0_ mq0_ kq0_ q1_ mq1_ kq1_ q2_ mq2_ kq2_ x_4 b_6 w58_4_0_a1_ bw58_4_0_a1_ y0_ by0_ y1_ by1_ y2_ by2_ hG58_q1_ (g.fcts [6, 7, 8, 4, 5, 9, 10, 11] rfl)) (cwV 3 hts (gV_ t_1547 t_1549 t_57 t_194 t_1550) rfl rfl rfl (by decide +kernel) ⟨(Nat.le_of_ble_eq_true rfl), (Nat.le_of_ble_eq_true rfl)⟩) (pre3V g hK ma0_ ka0_ (by decide) (q := (RX10, TX10, 10)) rfl) rfl rfl hl.1 rfl (lv_room (Nat.le_of_ble_eq_true rfl)) dX10_askGives_84 ⟨(Nat.le_of_ble_eq_true rfl), (Nat.le_of_ble_eq_true rfl)⟩) g hK (by decide) (by decide) (fx' := [(7, 7, a_17, .ref a_30), (6, 11, a_19, .int x_20), (7, 2, a_17, .ref a_18), (10, 0, a0_, .ref a_17), (4, 15, a1_, .int x_4), (10, 1, a0_, .ref q0_), (1, 0, q0_, .ref q1_), (1, 1, q0_, .ref q2_), (7, 1, q1_, .int y0_), (4, 6, a1_, .int y1_), (4, 14, a1_, .int y2_)]) rfl (fun r_36 fr_36 H locs hp hMr_36 g => ?_)
                      have hG_37 := cOK.frame hMr_36 go_.2.2.2.1 mq1_ kq1_ (by decide) (by decide) hG58_q1_
                      rcases hp with ⟨h_38, hF_39⟩ | ⟨h_40, x_41, h_42, x_43, h_44, hF_45⟩
                      · obtain rfl : r_36 = 0 := h_38
                        have g := g.more hF_39
                        refine lv_if_ne (tgt := 113) hx hb dX10_askGives_87 (by decide) (fun c_ => absurd c_ (by decide)) (fun c_ => ?_)
                        refine lv_aload_n hx hb dX10_askGives_90 rfl (lv_at hl 5 rfl) ?_
                        refine lv_aload_n hx hb dX10_askGives_91 rfl (lv_at hl 5 rfl) ?_
                        refine g_geti (C := RX4) (T := TX4) (N := 17) hx hb hts (mc_ inX4) hown hK g ma1_ ka1_ (by decide) rfl 0 (by decide) rfl (hts _ (List.mem_cons_of_mem _ t_837)) (fun _ h9 => h9) rfl dX10_askGives_92 (fun x_46 bx_46 g => ?_)
                        refine lv_if_ne (tgt := 102) hx hb dX10_askGives_95 (by decide) (fun c_47 => ?_) (fun c_47 => ?_)
                        · have fc_47 := neq_f c_47
                          refine lv_aload_n hx hb dX10_askGives_102 rfl (lv_at hl 5 rfl) ?_
                          refine g_getk (C := RX4) (T := TX4) (N := 17) hx hb hts (mc_ inX4) hown hK g rfl 0 (by decide) rfl (hts _ (List.mem_cons_of_mem _ t_837)) (fun _ h9 => h9) 0 rfl dX10_askGives_103 ?_
                          refine lv_iload hx hb dX10_askGives_106 (lv_at hl 0 rfl) ?_
                          refine lv_iload_n hx hb dX10_askGives_108 rfl (lv_at hl 6 rfl) ?_
                          have go_ := g
                          refine g_callv (va_runV (As := [.int x_46, .int v58_7, .int x2_]) (rest := []) ⟨hx, hb, hml, hown, hts⟩ (r_X4_breakBy l dC dI L kd tys fr_36 H.size g.2.2.2.1 a1_ ma1_ ka1_ x_46 v58_7 x2_) (cwV 3 hts (gV_ t_1606 t_1607 t_1608 t_197 t_1609) rfl rfl rfl (by decide +kernel) ⟨(Nat.le_of_ble_eq_true rfl), (Nat.le_of_ble_eq_true rfl)⟩) (pre3V g hK ma1_ ka1_ (by decide) (q := (RX4, TX4, 17)) rfl) rfl rfl hl.1 rfl (lv_room (Nat.le_of_ble_eq_true rfl)) dX10_askGives_109 ⟨(Nat.le_of_ble_eq_true rfl), (Nat.le_of_ble_eq_true rfl)⟩) g hK (by decide) (by decide) (fx' := [(1, 12, q0_, .int 0), (1, 5, q0_, .int 1), (7, 7, a_17, .ref a_30), (6, 11, a_19, .int x_20), (7, 2, a_17, .ref a_18), (10, 0, a0_, .ref a_17), (4, 15, a1_, .int x_4), (10, 1, a0_, .ref q0_), (1, 0, q0_, .ref q1_), (1, 1, q0_, .ref q2_), (7, 1, q1_, .int y0_), (4, 6, a1_, .int y1_), (4, 14, a1_, .int y2_)]) rfl (fun fr_48 H locs hp hMr_48 g => ?_)
                          have hG_49 := cOK.frame hMr_48 go_.2.2.2.1 mq1_ kq1_ (by decide) (by decide) hG_37
                          subst hQ
                          exact W.vret hx hb hr (fun t ht hW => ⟨⟨_, rfl, trivial, q3_of g hK ht hW⟩, g.2.2.1.F ht⟩) g.2.2.1.2.2 dX10_askGives_112
                        · have fc_47 := eq_f c_47
                          have b_50 : bd 0 0 x_46 := eqX fc_47 (bdT x_46) kb_0 (by decide)
                          refine lv_iconst (v := 1) hx hb dX10_askGives_98 (by decide) ?_
                          refine lv_goto (tgt := 106) hx hb dX10_askGives_99 (by decide) ?_
                          refine lv_iload hx hb dX10_askGives_106 (lv_at hl 0 rfl) ?_
                          refine lv_iload_n hx hb dX10_askGives_108 rfl (lv_at hl 6 rfl) ?_
                          have go_ := g
                          refine g_callv (va_runV (As := [.int 1, .int v58_7, .int x2_]) (rest := []) ⟨hx, hb, hml, hown, hts⟩ (r_X4_breakBy l dC dI L kd tys fr_36 H.size g.2.2.2.1 a1_ ma1_ ka1_ 1 v58_7 x2_) (cwV 3 hts (gV_ t_1606 t_1607 t_1608 t_197 t_1609) rfl rfl rfl (by decide +kernel) ⟨(Nat.le_of_ble_eq_true rfl), (Nat.le_of_ble_eq_true rfl)⟩) (pre3V g hK ma1_ ka1_ (by decide) (q := (RX4, TX4, 17)) rfl) rfl rfl hl.1 rfl (lv_room (Nat.le_of_ble_eq_true rfl)) dX10_askGives_109 ⟨(Nat.le_of_ble_eq_true rfl), (Nat.le_of_ble_eq_true rfl)⟩) g hK (by decide) (by decide) (fx' := [(1, 12, q0_, .int 0), (1, 5, q0_, .int 1), (7, 7, a_17, .ref a_30), (6, 11, a_19, .int x_20), (7, 2, a_17, .ref a_18), (10, 0, a0_, .ref a_17), (4, 15, a1_, .int x_4), (10, 1, a0_, .ref q0_), (1, 0, q0_, .ref q1_), (1, 1, q0_, .ref q2_), (7, 1, q1_, .int y0_), (4, 6, a1_, .int y1_), (4, 14, a1_, .int y2_)]) rfl (fun fr_51 H locs hp hMr_51 g => ?_)
                          have hG_52 := cOK.frame hMr_51 go_.2.2.2.1 mq1_ kq1_ (by decide) (by decide) hG_37
                          subst hQ
                          exact W.vret hx hb hr (fun t ht hW => ⟨⟨_, rfl, trivial, q3_of g hK ht hW⟩, g.2.2.1.F ht⟩) g.2.2.1.2.2 dX10_askGives_112
                      · obtain rfl : r_36 = 1 := h_40
                        have g := g.more hF_45
                        refine lv_if_ne (tgt := 113) hx hb dX10_askGives_87 (by decide) (fun c_ => ?_) (fun c_ => absurd c_ (by decide))
                        obtain ⟨y_53, ey_53⟩ : ∃ z : Int32, z = v58_7 + 1 := ⟨_, rfl⟩
                        refine lv_iinc (v := y_53) (lv' := [(7, .int y_53), (6, .int r_14), (5, .int v22_5), (4, .int v22_4), (0, .ref a0_), (1, .ref a1_), (2, .int x2_), (3, .int x3_)]) hx hb dX10_askGives_113 hl (k := 0) rfl (by rw [ey_53]; rfl) (by decide) rfl (fun ls hl => ?_)
                        have ty_53 := add_bd ey_53 b_28 kb_1 (by decide)
                        have b_54 : bd 1 500 y_53 := add_rg ty_53 b_28 kb_1 (by decide)
                        refine lv_goto (tgt := 58) hx hb dX10_askGives_116 (by decide) ?_
                        have hl9 := lv_sub hl [0, 1, 2, 3, 4, 5, 6, 7] (by rfl : lv_pick [(7, .int y_53), (6, .int r_14), (5, .int v22_5), (4, .int v22_4), (0, .ref a0_), (1, .ref a1_), (2, .int x2_), (3, .int x3_)] [0, 1, 2, 3, 4, 5, 6, 7] = [(7, .int y_53), (6, .int r_14), (5, .int v22_5), (4, .int v22_4), (0, .ref a0_), (1, .ref a1_), (2, .int x2_), (3, .int x3_)])
                        have g9 := g.sub (fx' := [(6, 11, a_19, .int x_20), (7, 2, a_17, .ref a_18), (10, 0, a0_, .ref a_17), (4, 15, a1_, .int x_4), (4, 0, a1_, .int x_43), (10, 1, a0_, .ref q0_), (1, 0, q0_, .ref q1_), (1, 1, q0_, .ref q2_), (7, 1, q1_, .int y0_), (4, 6, a1_, .int y1_), (4, 14, a1_, .int y2_)]) [5, 6, 7, 8, 3, 9, 10, 11, 12, 13, 14] rfl
                        exact ih58  y_53 x_43 (bd_sub b_54 (by decide)) h_44 (by have h9_0 := b_54; unfold bd at h9_0; have h9_1 := bv58_7; unfold bd at h9_1; have h9_2 := bw58_4_0_a1_; unfold bd at h9_2; have h9_3 := h_44; unfold bd at h9_3; have h9_4 := kb_0; unfold bd at h9_4; have h9_5 := kb_1; unfold bd at h9_5; have h9_6 := kb_2; unfold bd at h9_6; have h9_7 := kb_8; unfold bd at h9_7; have h9_8 := kb_m1; unfold bd at h9_8; omega) _ _ _ _ g9 hG_37 hl9
              have hl9 := lv_sub hl [0, 1, 2, 3, 4, 5, 6, 7] (by rfl : lv_pick [(7, .int x_20), (6, .int r_14), (5, .int v22_5), (4, .int v22_4), (0, .ref a0_), (1, .ref a1_), (2, .int x2_), (3, .int x3_)] [0, 1, 2, 3, 4, 5, 6, 7] = [(7, .int x_20), (6, .int r_14), (5, .int v22_5), (4, .int v22_4), (0, .ref a0_), (1, .ref a1_), (2, .int x2_), (3, .int x3_)])
              have g9 := g.sub (fx' := [(6, 11, a_19, .int x_20), (7, 2, a_17, .ref a_18), (10, 0, a0_, .ref a_17), (4, 15, a1_, .int x_4), (4, 0, a1_, .int w22_4_0_a1_), (10, 1, a0_, .ref q0_), (1, 0, q0_, .ref q1_), (1, 1, q0_, .ref q2_), (7, 1, q1_, .int y0_), (4, 6, a1_, .int y1_), (4, 14, a1_, .int y2_)]) [0, 1, 2, 3, 4, 5, 6, 7, 8, 9, 10] rfl
              exact loop_21 (1003) x_20 w22_4_0_a1_ bx_20 bw22_4_0_a1_ (by have h9_0 := bw22_4_0_a1_; unfold bd at h9_0; have h9_1 := bx_20; unfold bd at h9_1; have h9_2 := kb_0; unfold bd at h9_2; have h9_3 := kb_1; unfold bd at h9_3; have h9_4 := kb_8; unfold bd at h9_4; have h9_5 := kb_m1; unfold bd at h9_5; omega) _ _ _ _ g9 hG_15 hl9
      have hl9 := lv_sub hl [0, 1, 2, 3, 4, 5] (by rfl : lv_pick [(5, .int 0), (4, .int x3_), (0, .ref a0_), (1, .ref a1_), (2, .int x2_), (3, .int x3_)] [0, 1, 2, 3, 4, 5] = [(5, .int 0), (4, .int x3_), (0, .ref a0_), (1, .ref a1_), (2, .int x2_), (3, .int x3_)])
      have g9 := g.sub (fx' := [(4, 15, a1_, .int x_4), (4, 0, a1_, .int x_1), (10, 1, a0_, .ref q0_), (1, 0, q0_, .ref q1_), (1, 1, q0_, .ref q2_), (7, 1, q1_, .int y0_), (4, 6, a1_, .int y1_), (4, 14, a1_, .int y2_)]) [0, 1, 2, 3, 4, 5, 6, 7] rfl
      exact loop_7 (19) 0 x3_ x_1 (bd_sub kb_0 (by decide)) (bd_sub bx3_ (by decide)) b_3 (by have h9_0 := b_3; unfold bd at h9_0; have h9_1 := bx3_; unfold bd at h9_1; have h9_2 := kb_0; unfold bd at h9_2; have h9_3 := kb_1; unfold bd at h9_3; omega) _ _ _ _ g9 hGq1_ hl9
    · have fc_5 := neq_f c_5
      subst hQ
      exact W.vret hx hb hr (fun t ht hW => ⟨⟨_, rfl, trivial, q3_of g hK ht hW⟩, g.2.2.1.F ht⟩) g.2.2.1.2.2 dX10_askGives_15
set_option maxHeartbeats 4000000 in
set_option maxRecDepth 100000 in
theorem r_X1_standOn_4 (l : Launch) (dC : Nat → ClassId) (dI : Nat → Nat → Nat) (L : List Nat) (kd : Nat → Nat) (tys : List (ClassId × FieldType)) (f0 : Nat → va_E) (sz : Nat) (hWT : WT L kd tys f0) (a0_ : Nat) (ma0_ : a0_ ∈ L) (ka0_ : kd a0_ = 1) (a1_ : Nat) (ma1_ : a1_ ∈ L) (ka1_ : kd a1_ = 7) (a2_ : Nat) (ma2_ : a2_ ∈ L) (ka2_ : kd a2_ = 9) (a3_ : Nat) (ma3_ : a3_ ∈ L) (ka3_ : kd a3_ = 101) (a4_ : Nat) (ma4_ : a4_ ∈ L) (ka4_ : kd a4_ = 101) (a5_ : Nat) (ma5_ : a5_ ∈ L) (ka5_ : kd a5_ = 103) : Met l yX1_standOn (.code yX1_standOn cX1_standOn 6 none :: lw_g) ({ frames := 0, cells := 0, slots := 0, locals := 0 }) (va_Pc [.ref a0_, .ref a1_, .ref a2_, .ref a3_, .ref a4_, .ref a5_] (P3 (dC, dI) L tys f0 sz)) (va_Qv (fun (f : Nat → va_E) => (Fs L kd f [(1, 4, a0_, .ref a5_), (1, 3, a0_, .ref a4_), (1, 2, a0_, .ref a3_), (1, 1, a0_, .ref a2_), (1, 0, a0_, .ref a1_)])) (Q3 (dC, dI) L kd tys [(1, 0), (1, 1), (1, 2), (1, 3), (1, 4)] [] f0 sz) (pA L sz)) 0 0 (pA L sz) := by
  refine Met.ofW (cc := cX1_standOn) (maxL := 6) (ret := none) (by decide) rfl ?_
  intro p e s m args below meth c s₁ B hml hv
  obtain ⟨rfl, hsz, hP, hK, hD0⟩ := hv
  have hx := B.exec
  have hb := B.bytes
  have hr := B.returns
  have hts := atoms_spec (ws := (.code yX1_standOn cX1_standOn 6 none :: lw_g)) B.pre
  have hown : s.vm.findClass RX1 = some m.cls := findClass_of_methodNamed B.named
  have hlocks := B.notSynchronized
  subst hsz
  have g : G3 (dC, dI) L kd tys s f0 [(1, 0), (1, 1), (1, 2), (1, 3), (1, 4)] [] f0 s.heap [] [] := G3.start hP hD0 hWT Fs.nil
  have hl := lv_entry ([.ref a0_, .ref a1_, .ref a2_, .ref a3_, .ref a4_, .ref a5_]) (n := 6) (Nat.le_of_ble_eq_true rfl)
  rw [lg_entry_eq]
  generalize (lg_sl ([.ref a0_, .ref a1_, .ref a2_, .ref a3_, .ref a4_, .ref a5_]) ++ List.replicate (6 - (lg_sl ([.ref a0_, .ref a1_, .ref a2_, .ref a3_, .ref a4_, .ref a5_])).length) Slot.unset).toArray = ls at hl ⊢
  have hl : lv_has ls 6 [(0, .ref a0_), (1, .ref a1_), (2, .ref a2_), (3, .ref a3_), (4, .ref a4_), (5, .ref a5_)] := hl
  refine W_q (fun Q hQ => ?_)
  refine lv_aload_n hx hb dX1_standOn_0 rfl (lv_at hl 0 rfl) ?_
  refine lv_aload_n hx hb dX1_standOn_1 rfl (lv_at hl 1 rfl) ?_
  refine g_put (C := RX1) (T := TX1) (N := 18) hx hb hts (mc_ inX1) tyX1 tyX1_ok nmX1 hown hK g ma0_ ka0_ (by decide) rfl 0 (by decide) (hts _ (List.mem_cons_of_mem _ t_735)) (fun _ h9 => h9) rfl rfl (okV_n ma1_ ka1_ (by decide)) rfl rfl (by decide) (Or.inr (Or.inl (by decide))) (fx' := []) rfl dX1_standOn_2 (fun f H locs hM_1 g => ?_)
  refine lv_aload_n hx hb dX1_standOn_5 rfl (lv_at hl 0 rfl) ?_
  refine lv_aload_n hx hb dX1_standOn_6 rfl (lv_at hl 2 rfl) ?_
  refine g_put (C := RX1) (T := TX1) (N := 18) hx hb hts (mc_ inX1) tyX1 tyX1_ok nmX1 hown hK g ma0_ ka0_ (by decide) rfl 1 (by decide) (hts _ (List.mem_cons_of_mem _ t_736)) (fun _ h9 => h9) rfl rfl (okV_n ma2_ ka2_ (by decide)) rfl rfl (by decide) (Or.inr (Or.inl (by decide))) (fx' := [(1, 0, a0_, .ref a1_)]) rfl dX1_standOn_7 (fun f H locs hM_2 g => ?_)
  refine lv_aload_n hx hb dX1_standOn_10 rfl (lv_at hl 0 rfl) ?_
  refine lv_aload_n hx hb dX1_standOn_11 rfl (lv_at hl 3 rfl) ?_
  refine g_put (C := RX1) (T := TX1) (N := 18) hx hb hts (mc_ inX1) tyX1 tyX1_ok nmX1 hown hK g ma0_ ka0_ (by decide) rfl 2 (by decide) (hts _ (List.mem_cons_of_mem _ t_737)) (fun _ h9 => h9) rfl rfl (okV_r ma3_ ka3_ (by decide)) rfl rfl (by decide) (Or.inr (Or.inl (by decide))) (fx' := [(1, 1, a0_, .ref a2_), (1, 0, a0_, .ref a1_)]) rfl dX1_standOn_12 (fun f H locs hM_3 g => ?_)
  refine lv_aload_n hx hb dX1_standOn_15 rfl (lv_at hl 0 rfl) ?_
  refine lv_aload hx hb dX1_standOn_16 (lv_at hl 4 rfl) ?_
  refine g_put (C := RX1) (T := TX1) (N := 18) hx hb hts (mc_ inX1) tyX1 tyX1_ok nmX1 hown hK g ma0_ ka0_ (by decide) rfl 3 (by decide) (hts _ (List.mem_cons_of_mem _ t_738)) (fun _ h9 => h9) rfl rfl (okV_r ma4_ ka4_ (by decide)) rfl rfl (by decide) (Or.inr (Or.inl (by decide))) (fx' := [(1, 2, a0_, .ref a3_), (1, 1, a0_, .ref a2_), (1, 0, a0_, .ref a1_)]) rfl dX1_standOn_18 (fun f H locs hM_4 g => ?_)
  refine lv_aload_n hx hb dX1_standOn_21 rfl (lv_at hl 0 rfl) ?_
  refine lv_aload hx hb dX1_standOn_22 (lv_at hl 5 rfl) ?_
  refine g_put (C := RX1) (T := TX1) (N := 18) hx hb hts (mc_ inX1) tyX1 tyX1_ok nmX1 hown hK g ma0_ ka0_ (by decide) rfl 4 (by decide) (hts _ (List.mem_cons_of_mem _ t_739)) (fun _ h9 => h9) rfl rfl (okV_r ma5_ ka5_ (by decide)) rfl rfl (by decide) (Or.inr (Or.inl (by decide))) (fx' := [(1, 3, a0_, .ref a4_), (1, 2, a0_, .ref a3_), (1, 1, a0_, .ref a2_), (1, 0, a0_, .ref a1_)]) rfl dX1_standOn_24 (fun f H locs hM_5 g => ?_)
  subst hQ
  exact W.vret hx hb hr (fun t ht hW => ⟨⟨_, rfl, (g.fcts [0, 1, 2, 3, 4] rfl), q3_of g hK ht hW⟩, g.2.2.1.F ht⟩) g.2.2.1.2.2 dX1_standOn_27
set_option maxHeartbeats 4000000 in
set_option maxRecDepth 100000 in
theorem r_X10_askModel (l : Launch) (dC : Nat → ClassId) (dI : Nat → Nat → Nat) (L : List Nat) (kd : Nat → Nat) (tys : List (ClassId × FieldType)) (f0 : Nat → va_E) (sz : Nat) (hWT : WT L kd tys f0) (a0_ : Nat) (ma0_ : a0_ ∈ L) (ka0_ : kd a0_ = 10) (a1_ : Nat) (ma1_ : a1_ ∈ L) (ka1_ : kd a1_ = 4) (x2_ : Int32) (bx2_ : bd 0 2 x2_) (a3_ : Nat) (ma3_ : a3_ ∈ L) (ka3_ : kd a3_ = 6) (a4_ : Nat) (ma4_ : a4_ ∈ L) (ka4_ : kd a4_ = 103) (q0_ : Nat) (mq0_ : q0_ ∈ L) (kq0_ : kd q0_ = 7) (y0_ : Int32) (by0_ : bd 1 8 y0_) (y1_ : Int32) (by1_ : bd 1 3 y1_) (y2_ : Int32) (by2_ : bd 0 9 y2_) (hGq0_ : cOK f0 q0_) (hfx : Fs L kd f0 [(10, 0, a0_, .ref q0_), (7, 1, q0_, .int y0_), (4, 6, a1_, .int y1_), (4, 14, a1_, .int y2_)]) : Met l yX10_askModel (.code yX10_askModel cX10_askModel 11 none :: lw_g) ({ frames := 2, cells := 0, slots := 0, locals := 50 }) (va_Pc [.ref a0_, .ref a1_, .int x2_, .ref a3_, .ref a4_] (P3 (dC, dI) L tys f0 sz)) (va_Qv (fun (f : Nat → va_E) => (True)) (Q3 (dC, dI) L kd tys [(1, 0), (1, 1), (1, 2), (1, 3), (1, 4), (1, 5), (1, 6), (1, 8), (1, 11), (1, 12), (1, 13), (1, 14), (1, 15), (1, 16), (1, 17), (4, 0), (4, 5)] [100, 101, 102, 103, 116, 117, 146] f0 sz) (pA L sz)) 0 0 (pA L sz) := by
  refine Met.ofW (cc := cX10_askModel) (maxL := 11) (ret := none) (by decide) rfl ?_
  intro p e s m args below meth c s₁ B hml hv
  obtain ⟨rfl, hsz, hP, hK, hD0⟩ := hv
  have hx := B.exec
  have hb := B.bytes
  have hr := B.returns
  have hts := atoms_spec (ws := (.code yX10_askModel cX10_askModel 11 none :: lw_g)) B.pre
  have hown : s.vm.findClass RX10 = some m.cls := findClass_of_methodNamed B.named
  have hlocks := B.notSynchronized
  subst hsz
  have g : G3 (dC, dI) L kd tys s f0 [(1, 0), (1, 1), (1, 2), (1, 3), (1, 4), (1, 5), (1, 6), (1, 8), (1, 11), (1, 12), (1, 13), (1, 14), (1, 15), (1, 16), (1, 17), (4, 0), (4, 5)] [100, 101, 102, 103, 116, 117, 146] f0 s.heap [] [(10, 0, a0_, .ref q0_), (7, 1, q0_, .int y0_), (4, 6, a1_, .int y1_), (4, 14, a1_, .int y2_)] := G3.start hP hD0 hWT hfx
  have hl := lv_entry ([.ref a0_, .ref a1_, .int x2_, .ref a3_, .ref a4_]) (n := 11) (Nat.le_of_ble_eq_true rfl)
  rw [lg_entry_eq]
  generalize (lg_sl ([.ref a0_, .ref a1_, .int x2_, .ref a3_, .ref a4_]) ++ List.replicate (11 - (lg_sl ([.ref a0_, .ref a1_, .int x2_, .ref a3_, .ref a4_])).length) Slot.unset).toArray = ls at hl ⊢
  have hl : lv_has ls 11 [(0, .ref a0_), (1, .ref a1_), (2, .int x2_), (3, .ref a3_), (4, .ref a4_)] := hl
  refine W_q (fun Q hQ => ?_)
  refine lv_aload_n hx hb dX10_askModel_0 rfl (lv_at hl 1 rfl) ?_
  refine g_getr (K := 127) (C := RX4) (T := TX4) (N := 17) hx hb hts (mc_ inX4) hown hK g ma1_ ka1_ (by decide) rfl 8 (by decide) rfl (hts _ (List.mem_cons_of_mem _ t_857)) (fun _ h9 => h9) rfl dX10_askModel_1 (fun a_1 ma_1 ka_1 g => ?_)
  refine lv_iload_n hx hb dX10_askModel_4 rfl (lv_at hl 2 rfl) ?_
  refine g_iald hx hb hK g ma_1 ka_1 (by decide) rfl (in_bd bx2_ (by decide)) dX10_askModel_5 (fun x_2 bx_2 cx_2 => ?_)
  refine lv_istore (lv' := [(5, .int x_2), (0, .ref a0_), (1, .ref a1_), (2, .int x2_), (3, .ref a3_), (4, .ref a4_)]) hx hb dX10_askModel_6 hl (by decide) rfl (fun ls hl => ?_)
  refine lv_aload_n hx hb dX10_askModel_8 rfl (lv_at hl 2 rfl) ?_
  refine g_geti (C := RX4) (T := TX4) (N := 17) hx hb hts (mc_ inX4) hown hK g ma1_ ka1_ (by decide) rfl 0 (by decide) rfl (hts _ (List.mem_cons_of_mem _ t_837)) (fun _ h9 => h9) rfl dX10_askModel_9 (fun x_3 bx_3 g => ?_)
  have kb_0 : bd 0 0 (0 : Int32) := ⟨by decide, by decide⟩
  refine lv_if_ne (tgt := 27) hx hb dX10_askModel_12 (by decide) (fun c_4 => ?_) (fun c_4 => ?_)
  · have fc_4 := neq_f c_4
    subst hQ
    exact W.vret hx hb hr (fun t ht hW => ⟨⟨_, rfl, trivial, q3_of g hK ht hW⟩, g.2.2.1.F ht⟩) g.2.2.1.2.2 dX10_askModel_27
  · have fc_4 := eq_f c_4
    have b_5 : bd 0 0 x_3 := eqX fc_4 (bdT x_3) kb_0 (by decide)
    refine lv_aload_n hx hb dX10_askModel_15 rfl (lv_at hl 1 rfl) ?_
    refine g_getk (C := RX10) (T := TX10) (N := 10) hx hb hts (mc_ inX10) hown hK g rfl 0 (by decide) rfl (hts _ (List.mem_cons_of_mem _ t_912)) (fun _ h9 => h9) 2 rfl dX10_askModel_16 ?_
    refine lv_iload hx hb dX10_askModel_19 (lv_at hl 0 rfl) ?_
    have go_ := g
    refine g_calli (va_runV (As := [.int x_2]) (rest := []) ⟨hx, hb, hml, hown, hts⟩ (r_X7_hasClass l dC dI L kd tys f0 s.heap.size g.2.2.2.1 q0_ mq0_ kq0_ x_2) (cwV 1 hts (gV_ t_1534 t_1281 t_1282 t_191 t_1283) rfl rfl rfl (by decide +kernel) ⟨(Nat.le_of_ble_eq_true rfl), (Nat.le_of_ble_eq_true rfl)⟩) (pre3V g hK mq0_ kq0_ (by decide) (q := (RX7, TX7, 19)) rfl) rfl rfl hl.1 rfl (lv_room (Nat.le_of_ble_eq_true rfl)) dX10_askModel_21 ⟨(Nat.le_of_ble_eq_true rfl), (Nat.le_of_ble_eq_true rfl)⟩) g hK (by decide) (by decide) (fx' := [(4, 0, a1_, .int x_3), (4, 8, a1_, .ref a_1), (10, 0, a0_, .ref q0_), (7, 1, q0_, .int y0_), (4, 6, a1_, .int y1_), (4, 14, a1_, .int y2_)]) rfl (fun r_6 fr_6 H locs hp hMr_6 g => ?_)
    have hG_7 := cOK.frame hMr_6 go_.2.2.2.1 mq0_ kq0_ (by decide) (by decide) hGq0_
    rcases hp with ⟨h_8, -⟩ | ⟨h_9, h_10, x_11, h_12, hF_13⟩
    · obtain rfl : r_6 = 0 := h_8
      refine lv_if_ne (tgt := 28) hx hb dX10_askModel_24 (by decide) (fun c_ => absurd c_ (by decide)) (fun c_ => ?_)
      subst hQ
      exact W.vret hx hb hr (fun t ht hW => ⟨⟨_, rfl, trivial, q3_of g hK ht hW⟩, g.2.2.1.F ht⟩) g.2.2.1.2.2 dX10_askModel_27
    · obtain rfl : r_6 = 1 := h_9
      have b_14 : bd 0 7 x_2 := eqX rfl (bdT x_2) h_10 (by decide)
      have g := g.more hF_13
      have e_15 := fx_same g 4 0 rfl rfl
      have g := g.sub (fx' := [(4, 0, a1_, .int x_3), (4, 8, a1_, .ref a_1), (10, 0, a0_, .ref q0_), (7, 1, q0_, .int y0_), (4, 6, a1_, .int y1_), (4, 14, a1_, .int y2_)]) [1, 2, 3, 4, 5, 6] rfl
      refine lv_if_ne (tgt := 28) hx hb dX10_askModel_24 (by decide) (fun c_ => ?_) (fun c_ => absurd c_ (by decide))
      refine lv_aload_n hx hb dX10_askModel_28 rfl (lv_at hl 1 rfl) ?_
      refine g_getk (C := RX10) (T := TX10) (N := 10) hx hb hts (mc_ inX10) hown hK g rfl 0 (by decide) rfl (hts _ (List.mem_cons_of_mem _ t_912)) (fun _ h9 => h9) 2 rfl dX10_askModel_29 ?_
      refine g_getr (K := 136) (C := RX7) (T := TX7) (N := 19) hx hb hts (mc_ inX7) hown hK g mq0_ kq0_ (by decide) rfl 0 (by decide) rfl (hts _ (List.mem_cons_of_mem _ t_624)) (fun _ h9 => h9) rfl dX10_askModel_32 (fun a_16 ma_16 ka_16 g => ?_)
      refine lv_iload hx hb dX10_askModel_35 (lv_at hl 0 rfl) ?_
      refine g_aald hx hb hK g ma_16 ka_16 (by decide) rfl (by decide) (in_bd b_14 (by decide)) dX10_askModel_37 (fun a_17 ma_17 ua_17 wa_17 => ?_)
      have ka_17 : kd a_17 = 9 := by omega
      refine lv_astore (lv' := [(6, .ref a_17), (5, .int x_2), (0, .ref a0_), (1, .ref a1_), (2, .int x2_), (3, .ref a3_), (4, .ref a4_)]) hx hb dX10_askModel_38 hl (by decide) rfl (fun ls hl => ?_)
      refine lv_aload_n hx hb dX10_askModel_40 rfl (lv_at hl 2 rfl) ?_
      refine g_getk (C := RX10) (T := TX10) (N := 10) hx hb hts (mc_ inX10) hown hK g rfl 0 (by decide) rfl (hts _ (List.mem_cons_of_mem _ t_912)) (fun _ h9 => h9) 3 rfl dX10_askModel_41 ?_
      refine lv_aload hx hb dX10_askModel_44 (lv_at hl 0 rfl) ?_
      refine lv_aload_n hx hb dX10_askModel_46 rfl (lv_at hl 5 rfl) ?_
      refine g_getl (C := RX6) (T := TX6) (N := 13) hx hb hts (mc_ inX6) hown hK g ma3_ ka3_ (by decide) rfl 0 (by decide) rfl (hts _ (List.mem_cons_of_mem _ t_557)) (fun _ h9 => h9) rfl dX10_askModel_47 (fun x_18 g => ?_)
      have go_ := g
      refine g_calli (va_runV (As := [.ref a_17, .long x_18]) (rest := []) ⟨hx, hb, hml, hown, hts⟩ (r_X7_memberNamed l dC dI L kd tys fr_6 H.size g.2.2.2.1 q0_ mq0_ kq0_ a_17 ma_17 ka_17 x_18) (cwV 2 hts (gV_ t_1665 t_1244 t_1245 t_191 t_1246) rfl rfl rfl (by decide +kernel) ⟨(Nat.le_of_ble_eq_true rfl), (Nat.le_of_ble_eq_true rfl)⟩) (pre3V g hK mq0_ kq0_ (by decide) (q := (RX7, TX7, 19)) rfl) rfl rfl hl.1 rfl (lv_room (Nat.le_of_ble_eq_true rfl)) dX10_askModel_50 ⟨(Nat.le_of_ble_eq_true rfl), (Nat.le_of_ble_eq_true rfl)⟩) g hK (by decide) (by decide) (fx' := [(6, 0, a3_, .long x_18), (7, 0, q0_, .ref a_16), (4, 0, a1_, .int x_3), (4, 8, a1_, .ref a_1), (10, 0, a0_, .ref q0_), (7, 1, q0_, .int y0_), (4, 6, a1_, .int y1_), (4, 14, a1_, .int y2_)]) rfl (fun r_19 fr_19 H locs hp hMr_19 g => ?_)
      have hG_20 := cOK.frame hMr_19 go_.2.2.2.1 mq0_ kq0_ (by decide) (by decide) hG_7
      obtain ⟨h_21, -⟩ := hp
      refine lv_istore (lv' := [(7, .int r_19), (6, .ref a_17), (5, .int x_2), (0, .ref a0_), (1, .ref a1_), (2, .int x2_), (3, .ref a3_), (4, .ref a4_)]) hx hb dX10_askModel_53 hl (by decide) rfl (fun ls hl => ?_)
      refine lv_iload hx hb dX10_askModel_55 (lv_at hl 0 rfl) ?_
      refine lv_iconst (v := (-1)) hx hb dX10_askModel_57 (by decide) ?_
      have kb_m1 : bd (-1) (-1) ((-1) : Int32) := ⟨by decide, by decide⟩
      refine lv_icmp_eq (tgt := 87) hx hb dX10_askModel_58 (by decide) (fun c_22 => ?_) (fun c_22 => ?_)
      · have fc_22 := eq_f c_22
        have b_23 : bd (-1) (-1) r_19 := eqX fc_22 h_21 kb_m1 (by decide)
        subst hQ
        exact W.vret hx hb hr (fun t ht hW => ⟨⟨_, rfl, trivial, q3_of g hK ht hW⟩, g.2.2.1.F ht⟩) g.2.2.1.2.2 dX10_askModel_87
      · have fc_22 := neq_f c_22
        have b_24 : bd 0 11 r_19 := neX fc_22 h_21 kb_m1 (by decide)
        refine lv_aload_n hx hb dX10_askModel_61 rfl (lv_at hl 3 rfl) ?_
        refine g_getk (C := RX10) (T := TX10) (N := 10) hx hb hts (mc_ inX10) hown hK g rfl 0 (by decide) rfl (hts _ (List.mem_cons_of_mem _ t_912)) (fun _ h9 => h9) 4 rfl dX10_askModel_62 ?_
        refine g_getr (K := 137) (C := RX7) (T := TX7) (N := 19) hx hb hts (mc_ inX7) hown hK g mq0_ kq0_ (by decide) rfl 2 (by decide) rfl (hts _ (List.mem_cons_of_mem _ t_634)) (fun _ h9 => h9) rfl dX10_askModel_65 (fun a_25 ma_25 ka_25 g => ?_)
        refine lv_aload hx hb dX10_askModel_68 (lv_at hl 1 rfl) ?_
        refine g_getr (K := 156) (C := RX9) (T := TX9) (N := 13) hx hb hts (mc_ inX9) hown hK g ma_17 ka_17 (by decide) rfl 9 (by decide) rfl (hts _ (List.mem_cons_of_mem _ t_509)) (fun _ h9 => h9) rfl dX10_askModel_70 (fun a_26 ma_26 ka_26 g => ?_)
        refine lv_iload hx hb dX10_askModel_73 (lv_at hl 0 rfl) ?_
        refine g_iald hx hb hK g ma_26 ka_26 (by decide) rfl (in_bd b_24 (by decide)) dX10_askModel_75 (fun x_27 bx_27 cx_27 => ?_)
        refine g_aald hx hb hK g ma_25 ka_25 (by decide) rfl (by decide) (in_bd bx_27 (by decide)) dX10_askModel_76 (fun a_28 ma_28 ua_28 wa_28 => ?_)
        have ka_28 : kd a_28 = 6 := by omega
        refine g_geti (C := RX6) (T := TX6) (N := 13) hx hb hts (mc_ inX6) hown hK g ma_28 ka_28 (by decide) rfl 3 (by decide) rfl (hts _ (List.mem_cons_of_mem _ t_566)) (fun _ h9 => h9) rfl dX10_askModel_77 (fun x_29 bx_29 g => ?_)
        refine lv_aload_n hx hb dX10_askModel_80 rfl (lv_at hl 6 rfl) ?_
        refine g_geti (C := RX6) (T := TX6) (N := 13) hx hb hts (mc_ inX6) hown hK g ma3_ ka3_ (by decide) rfl 3 (by decide) rfl (hts _ (List.mem_cons_of_mem _ t_566)) (fun _ h9 => h9) rfl dX10_askModel_81 (fun x_30 bx_30 g => ?_)
        refine lv_icmp_eq (tgt := 88) hx hb dX10_askModel_84 (by decide) (fun c_31 => ?_) (fun c_31 => ?_)
        · have fc_31 := eq_f c_31
          refine lv_aload_n hx hb dX10_askModel_88 rfl (lv_at hl 4 rfl) ?_
          refine g_getl (C := RX4) (T := TX4) (N := 17) hx hb hts (mc_ inX4) hown hK g ma1_ ka1_ (by decide) rfl 5 (by decide) rfl (hts _ (List.mem_cons_of_mem _ t_848)) (fun _ h9 => h9) rfl dX10_askModel_89 (fun x_32 g => ?_)
          refine lv_lstore (lv' := [(8, .long x_32), (7, .int r_19), (6, .ref a_17), (5, .int x_2), (0, .ref a0_), (1, .ref a1_), (2, .int x2_), (3, .ref a3_), (4, .ref a4_)]) hx hb dX10_askModel_92 hl (by decide) rfl (fun ls hl => ?_)
          refine lv_aload_n hx hb dX10_askModel_94 rfl (lv_at hl 4 rfl) ?_
          refine g_getr (K := 1) (C := RX10) (T := TX10) (N := 10) hx hb hts (mc_ inX10) hown hK g ma0_ ka0_ (by decide) rfl 1 (by decide) rfl (hts _ (List.mem_cons_of_mem _ t_913)) (fun _ h9 => h9) rfl dX10_askModel_95 (fun a_33 ma_33 ka_33 g => ?_)
          refine lv_aload_n hx hb dX10_askModel_98 rfl (lv_at hl 4 rfl) ?_
          refine g_getk (C := RX10) (T := TX10) (N := 10) hx hb hts (mc_ inX10) hown hK g rfl 0 (by decide) rfl (hts _ (List.mem_cons_of_mem _ t_912)) (fun _ h9 => h9) 10 rfl dX10_askModel_99 ?_
          refine lv_aload hx hb dX10_askModel_102 (lv_at hl 2 rfl) ?_
          refine lv_aload_n hx hb dX10_askModel_104 rfl (lv_at hl 5 rfl) ?_
          refine g_getr (K := 129) (C := RX4) (T := TX4) (N := 17) hx hb hts (mc_ inX4) hown hK g ma1_ ka1_ (by decide) rfl 10 (by decide) rfl (hts _ (List.mem_cons_of_mem _ t_863)) (fun _ h9 => h9) rfl dX10_askModel_105 (fun a_34 ma_34 ka_34 g => ?_)
          refine lv_iload_n hx hb dX10_askModel_108 rfl (lv_at hl 6 rfl) ?_
          refine g_aald hx hb hK g ma_34 ka_34 (by decide) rfl (by decide) (in_bd bx2_ (by decide)) dX10_askModel_109 (fun a_35 ma_35 ua_35 wa_35 => ?_)
          have ka_35 : kd a_35 = 101 := by omega
          refine lv_aload_n hx hb dX10_askModel_110 rfl (lv_at hl 5 rfl) ?_
          refine g_getk (C := RX4) (T := TX4) (N := 17) hx hb hts (mc_ inX4) hown hK g rfl 10 (by decide) rfl (hts _ (List.mem_cons_of_mem _ t_863)) (fun _ h9 => h9) 0 rfl dX10_askModel_111 ?_
          refine lv_iload_n hx hb dX10_askModel_114 rfl (lv_at hl 6 rfl) ?_
          refine g_aald hx hb hK g ma_34 ka_34 (by decide) rfl (by decide) (in_bd bx2_ (by decide)) dX10_askModel_115 (fun a_36 ma_36 ua_36 wa_36 => ?_)
          have ka_36 : kd a_36 = 101 := by omega
          refine lv_aload hx hb dX10_askModel_116 (lv_at hl 8 rfl) ?_
          have go_ := g
          refine g_callv (va_runV (As := [.ref q0_, .ref a_17, .ref a_35, .ref a_36, .ref a4_]) (rest := []) ⟨hx, hb, hml, hown, hts⟩ (r_X1_standOn_4 l dC dI L kd tys fr_19 H.size g.2.2.2.1 a_33 ma_33 ka_33 q0_ mq0_ kq0_ a_17 ma_17 ka_17 a_35 ma_35 ka_35 a_36 ma_36 ka_36 a4_ ma4_ ka4_) (cwV 5 hts (gV_ t_1543 t_1544 t_1545 t_195 t_1546) rfl rfl rfl (by decide +kernel) ⟨(Nat.le_of_ble_eq_true rfl), (Nat.le_of_ble_eq_true rfl)⟩) (pre3V g hK ma_33 ka_33 (by decide) (q := (RX1, TX1, 18)) rfl) rfl rfl hl.1 rfl (lv_room (Nat.le_of_ble_eq_true rfl)) dX10_askModel_118 ⟨(Nat.le_of_ble_eq_true rfl), (Nat.le_of_ble_eq_true rfl)⟩) g hK (by decide) (by decide) (fx' := [(4, 10, a1_, .ref a_34), (10, 1, a0_, .ref a_33), (4, 5, a1_, .long x_32), (6, 3, a3_, .int x_30), (6, 3, a_28, .int x_29), (9, 9, a_17, .ref a_26), (7, 2, q0_, .ref a_25), (6, 0, a3_, .long x_18), (7, 0, q0_, .ref a_16), (4, 0, a1_, .int x_3), (4, 8, a1_, .ref a_1), (10, 0, a0_, .ref q0_), (7, 1, q0_, .int y0_), (4, 6, a1_, .int y1_), (4, 14, a1_, .int y2_)]) rfl (fun fr_37 H locs hp hMr_37 g => ?_)
          have hG_38 := cOK.frame hMr_37 go_.2.2.2.1 mq0_ kq0_ (by decide) (by decide) hG_20
          have hF_39 := hp
          have g := g.more hF_39
          refine lv_aload_n hx hb dX10_askModel_121 rfl (lv_at hl 4 rfl) ?_
          refine g_getk (C := RX10) (T := TX10) (N := 10) hx hb hts (mc_ inX10) hown hK g rfl 1 (by decide) rfl (hts _ (List.mem_cons_of_mem _ t_913)) (fun _ h9 => h9) 6 rfl dX10_askModel_122 ?_
          refine lv_aload_n hx hb dX10_askModel_125 rfl (lv_at hl 4 rfl) ?_
          refine g_getk (C := RX10) (T := TX10) (N := 10) hx hb hts (mc_ inX10) hown hK g rfl 0 (by decide) rfl (hts _ (List.mem_cons_of_mem _ t_912)) (fun _ h9 => h9) 16 rfl dX10_askModel_126 ?_
          refine g_getk (C := RX7) (T := TX7) (N := 19) hx hb hts (mc_ inX7) hown hK g rfl 2 (by decide) rfl (hts _ (List.mem_cons_of_mem _ t_634)) (fun _ h9 => h9) 11 rfl dX10_askModel_129 ?_
          refine lv_aload hx hb dX10_askModel_132 (lv_at hl 2 rfl) ?_
          refine g_getk (C := RX9) (T := TX9) (N := 13) hx hb hts (mc_ inX9) hown hK g rfl 9 (by decide) rfl (hts _ (List.mem_cons_of_mem _ t_509)) (fun _ h9 => h9) 10 rfl dX10_askModel_134 ?_
          refine lv_iload hx hb dX10_askModel_137 (lv_at hl 1 rfl) ?_
          refine g_iald hx hb hK g ma_26 ka_26 (by decide) rfl (in_bd b_24 (by decide)) dX10_askModel_139 (fun x_40 bx_40 cx_40 => ?_)
          obtain rfl : x_27 = x_40 := el_same cx_27 cx_40 (arr_eq hMr_37 ma_26 ka_26 (by decide) rfl)
          refine g_aald hx hb hK g ma_25 ka_25 (by decide) rfl (by decide) (in_bd bx_27 (by decide)) dX10_askModel_140 (fun a_41 ma_41 ua_41 wa_41 => ?_)
          have ka_41 : kd a_41 = 6 := by omega
          have go_ := g
          refine g_callv (va_runV (As := [.ref a_41]) (rest := []) ⟨hx, hb, hml, hown, hts⟩ (r_X1_readyToCall l dC dI L kd tys fr_37 H.size g.2.2.2.1 a_33 ma_33 ka_33 a_41 ma_41 ka_41) (cwV 1 hts (gV_ t_1629 t_1630 t_1631 t_195 t_1632) rfl rfl rfl (by decide +kernel) ⟨(Nat.le_of_ble_eq_true rfl), (Nat.le_of_ble_eq_true rfl)⟩) (pre3V g hK ma_33 ka_33 (by decide) (q := (RX1, TX1, 18)) rfl) rfl rfl hl.1 rfl (lv_room (Nat.le_of_ble_eq_true rfl)) dX10_askModel_141 ⟨(Nat.le_of_ble_eq_true rfl), (Nat.le_of_ble_eq_true rfl)⟩) g hK (by decide) (by decide) (fx' := [(1, 4, a_33, .ref a4_), (1, 3, a_33, .ref a_36), (1, 2, a_33, .ref a_35), (1, 1, a_33, .ref a_17), (1, 0, a_33, .ref q0_), (4, 10, a1_, .ref a_34), (10, 1, a0_, .ref a_33), (4, 5, a1_, .long x_32), (6, 3, a3_, .int x_30), (6, 3, a_28, .int x_29), (9, 9, a_17, .ref a_26), (7, 2, q0_, .ref a_25), (6, 0, a3_, .long x_18), (7, 0, q0_, .ref a_16), (4, 0, a1_, .int x_3), (4, 8, a1_, .ref a_1), (10, 0, a0_, .ref q0_), (7, 1, q0_, .int y0_), (4, 6, a1_, .int y1_), (4, 14, a1_, .int y2_)]) rfl (fun fr_42 H locs hp hMr_42 g => ?_)
          have hG_43 := cOK.frame hMr_42 go_.2.2.2.1 mq0_ kq0_ (by decide) (by decide) hG_38
          have hF_44 := hp
          have g := g.more hF_44
          refine lv_aload_n hx hb dX10_askModel_144 rfl (lv_at hl 4 rfl) ?_
          refine g_getk (C := RX10) (T := TX10) (N := 10) hx hb hts (mc_ inX10) hown hK g rfl 1 (by decide) rfl (hts _ (List.mem_cons_of_mem _ t_913)) (fun _ h9 => h9) 9 rfl dX10_askModel_145 ?_
          have kb_1 : bd 1 1 (1 : Int32) := ⟨by decide, by decide⟩
          have go_ := g
          refine g_callv (va_runV (As := []) (rest := []) ⟨hx, hb, hml, hown, hts⟩ (r_X1_go_3 l dC dI L kd tys fr_42 H.size g.2.2.2.1 a_33 ma_33 ka_33 q0_ mq0_ kq0_ a_17 ma_17 ka_17 1 kb_1 0 kb_0 0 kb_0 y0_ by0_ hG_43 (g.fcts [7, 6, 0, 1, 2, 20] rfl)) (cwV 0 hts (gV_ t_1555 t_1556 t_1557 t_195 t_1558) rfl rfl rfl (by decide +kernel) ⟨(Nat.le_of_ble_eq_true rfl), (Nat.le_of_ble_eq_true rfl)⟩) (pre3V g hK ma_33 ka_33 (by decide) (q := (RX1, TX1, 18)) rfl) rfl rfl hl.1 rfl (lv_room (Nat.le_of_ble_eq_true rfl)) dX10_askModel_148 ⟨(Nat.le_of_ble_eq_true rfl), (Nat.le_of_ble_eq_true rfl)⟩) g hK (by decide) (by decide) (fx' := [(1, 12, a_33, .int 1), (1, 6, a_33, .int 0), (1, 5, a_33, .int 0), (1, 4, a_33, .ref a4_), (1, 3, a_33, .ref a_36), (1, 2, a_33, .ref a_35), (1, 1, a_33, .ref a_17), (1, 0, a_33, .ref q0_), (4, 10, a1_, .ref a_34), (10, 1, a0_, .ref a_33), (4, 5, a1_, .long x_32), (6, 3, a3_, .int x_30), (6, 3, a_28, .int x_29), (9, 9, a_17, .ref a_26), (7, 2, q0_, .ref a_25), (6, 0, a3_, .long x_18), (7, 0, q0_, .ref a_16), (4, 0, a1_, .int x_3), (4, 8, a1_, .ref a_1), (10, 0, a0_, .ref q0_), (7, 1, q0_, .int y0_), (4, 6, a1_, .int y1_), (4, 14, a1_, .int y2_)]) rfl (fun fr_45 H locs hp hMr_45 g => ?_)
          have hG_46 := cOK.frame hMr_45 go_.2.2.2.1 mq0_ kq0_ (by decide) (by decide) hG_43
          obtain ⟨x_47, h_48, hF_49⟩ := hp
          have g := g.more hF_49
          refine lv_aload_n hx hb dX10_askModel_151 rfl (lv_at hl 4 rfl) ?_
          refine g_getk (C := RX10) (T := TX10) (N := 10) hx hb hts (mc_ inX10) hown hK g rfl 1 (by decide) rfl (hts _ (List.mem_cons_of_mem _ t_913)) (fun _ h9 => h9) 10 rfl dX10_askModel_152 ?_
          refine g_geti (C := RX1) (T := TX1) (N := 18) hx hb hts (mc_ inX1) hown hK g ma_33 ka_33 (by decide) rfl 15 (by decide) rfl (hts _ (List.mem_cons_of_mem _ t_751)) (fun _ h9 => h9) rfl dX10_askModel_155 (fun x_50 bx_50 g => ?_)
          refine lv_aload_n hx hb dX10_askModel_158 rfl (lv_at hl 5 rfl) ?_
          refine g_geti (C := RX4) (T := TX4) (N := 17) hx hb hts (mc_ inX4) hown hK g ma1_ ka1_ (by decide) rfl 15 (by decide) rfl (hts _ (List.mem_cons_of_mem _ t_875)) (fun _ h9 => h9) rfl dX10_askModel_159 (fun x_51 bx_51 g => ?_)
          refine lv_icmp_ne (tgt := 169) hx hb dX10_askModel_162 (by decide) (fun c_52 => ?_) (fun c_52 => ?_)
          · have fc_52 := neq_f c_52
            refine lv_iconst (v := 0) hx hb dX10_askModel_169 (by decide) ?_
            refine lv_istore (lv' := [(10, .int 0), (8, .long x_32), (7, .int r_19), (6, .ref a_17), (5, .int x_2), (0, .ref a0_), (1, .ref a1_), (2, .int x2_), (3, .ref a3_), (4, .ref a4_)]) hx hb dX10_askModel_170 hl (by decide) rfl (fun ls hl => ?_)
            refine lv_aload_n hx hb dX10_askModel_172 rfl (lv_at hl 5 rfl) ?_
            refine g_getk (C := RX10) (T := TX10) (N := 10) hx hb hts (mc_ inX10) hown hK g rfl 1 (by decide) rfl (hts _ (List.mem_cons_of_mem _ t_913)) (fun _ h9 => h9) 12 rfl dX10_askModel_173 ?_
            refine g_getk (C := RX1) (T := TX1) (N := 18) hx hb hts (mc_ inX1) hown hK g rfl 15 (by decide) rfl (hts _ (List.mem_cons_of_mem _ t_751)) (fun _ h9 => h9) 1 rfl dX10_askModel_176 ?_
            refine lv_iconst (v := 2) hx hb dX10_askModel_179 (by decide) ?_
            have kb_2 : bd 2 2 (2 : Int32) := ⟨by decide, by decide⟩
            refine lv_icmp_ne (tgt := 222) hx hb dX10_askModel_180 (by decide) (fun c_53 => ?_) (fun c_53 => ?_)
            · have fc_53 := neq_f c_53
              refine lv_iload hx hb dX10_askModel_222 (lv_at hl 0 rfl) ?_
              refine lv_if_eq (tgt := 245) hx hb dX10_askModel_224 (by decide) (fun c_ => ?_) (fun c_ => absurd (by decide) c_)
              refine lv_iconst (v := 0) hx hb dX10_askModel_245 (by decide) ?_
              refine lv_istore (lv' := [(10, .int 0), (8, .long x_32), (7, .int r_19), (6, .ref a_17), (5, .int x_2), (0, .ref a0_), (1, .ref a1_), (2, .int x2_), (3, .ref a3_), (4, .ref a4_)]) hx hb dX10_askModel_246 hl (by decide) rfl (fun ls hl => ?_)
              refine lv_aload_n hx hb dX10_askModel_248 rfl (lv_at hl 6 rfl) ?_
              refine lv_iload hx hb dX10_askModel_249 (lv_at hl 0 rfl) ?_
              refine lv_if_eq (tgt := 258) hx hb dX10_askModel_251 (by decide) (fun c_ => ?_) (fun c_ => absurd (by decide) c_)
              refine lv_bipush (v := 6) hx hb dX10_askModel_258 (by decide) ?_
              have kb_6 : bd 6 6 (6 : Int32) := ⟨by decide, by decide⟩
              have go_ := g
              refine g_put (C := RX4) (T := TX4) (N := 17) hx hb hts (mc_ inX4) tyX4 tyX4_ok nmX4 hown hK g ma1_ ka1_ (by decide) rfl 0 (by decide) (hts _ (List.mem_cons_of_mem _ t_837)) (fun _ h9 => h9) rfl rfl (okV_i (bd_sub kb_6 (by decide))) rfl rfl (by decide) (Or.inr (Or.inl (by decide))) (fx' := [(4, 15, a1_, .int x_51), (1, 15, a_33, .int x_50), (1, 11, a_33, .int x_47), (1, 12, a_33, .int 1), (1, 6, a_33, .int 0), (1, 5, a_33, .int 0), (1, 4, a_33, .ref a4_), (1, 3, a_33, .ref a_36), (1, 2, a_33, .ref a_35), (1, 1, a_33, .ref a_17), (1, 0, a_33, .ref q0_), (4, 10, a1_, .ref a_34), (10, 1, a0_, .ref a_33), (4, 5, a1_, .long x_32), (6, 3, a3_, .int x_30), (6, 3, a_28, .int x_29), (9, 9, a_17, .ref a_26), (7, 2, q0_, .ref a_25), (6, 0, a3_, .long x_18), (7, 0, q0_, .ref a_16), (4, 8, a1_, .ref a_1), (10, 0, a0_, .ref q0_), (7, 1, q0_, .int y0_), (4, 6, a1_, .int y1_), (4, 14, a1_, .int y2_)]) rfl dX10_askModel_260 (fun f H locs hM_54 g => ?_)
              have hG_55 := cOK.frame hM_54 go_.2.2.2.1 mq0_ kq0_ (by decide) (by decide) hG_46
              subst hQ
              exact W.vret hx hb hr (fun t ht hW => ⟨⟨_, rfl, trivial, q3_of g hK ht hW⟩, g.2.2.1.F ht⟩) g.2.2.1.2.2 dX10_askModel_263
            · have fc_53 := eq_f c_53
              have b_56 : bd 2 2 x_50 := eqX fc_53 (bdT x_50) kb_2 (by decide)
              refine lv_aload_n hx hb dX10_askModel_183 rfl (lv_at hl 6 rfl) ?_
              refine lv_aload_n hx hb dX10_askModel_184 rfl (lv_at hl 5 rfl) ?_
              refine g_getk (C := RX10) (T := TX10) (N := 10) hx hb hts (mc_ inX10) hown hK g rfl 1 (by decide) rfl (hts _ (List.mem_cons_of_mem _ t_913)) (fun _ h9 => h9) 12 rfl dX10_askModel_185 ?_
              refine g_getl (C := RX1) (T := TX1) (N := 18) hx hb hts (mc_ inX1) hown hK g ma_33 ka_33 (by decide) rfl 17 (by decide) rfl (hts _ (List.mem_cons_of_mem _ t_755)) (fun _ h9 => h9) rfl dX10_askModel_188 (fun x_57 g => ?_)
              have go_ := g
              refine g_put (C := RX4) (T := TX4) (N := 17) hx hb hts (mc_ inX4) tyX4 tyX4_ok nmX4 hown hK g ma1_ ka1_ (by decide) rfl 5 (by decide) (hts _ (List.mem_cons_of_mem _ t_848)) (fun _ h9 => h9) rfl rfl okV_l rfl rfl (by decide) (Or.inr (Or.inl (by decide))) (fx' := [(1, 17, a_33, .long x_57), (4, 15, a1_, .int x_51), (1, 15, a_33, .int x_50), (1, 11, a_33, .int x_47), (1, 12, a_33, .int 1), (1, 6, a_33, .int 0), (1, 5, a_33, .int 0), (1, 4, a_33, .ref a4_), (1, 3, a_33, .ref a_36), (1, 2, a_33, .ref a_35), (1, 1, a_33, .ref a_17), (1, 0, a_33, .ref q0_), (4, 10, a1_, .ref a_34), (10, 1, a0_, .ref a_33), (6, 3, a3_, .int x_30), (6, 3, a_28, .int x_29), (9, 9, a_17, .ref a_26), (7, 2, q0_, .ref a_25), (6, 0, a3_, .long x_18), (7, 0, q0_, .ref a_16), (4, 0, a1_, .int x_3), (4, 8, a1_, .ref a_1), (10, 0, a0_, .ref q0_), (7, 1, q0_, .int y0_), (4, 6, a1_, .int y1_), (4, 14, a1_, .int y2_)]) rfl dX10_askModel_191 (fun f H locs hM_58 g => ?_)
              have hG_59 := cOK.frame hM_58 go_.2.2.2.1 mq0_ kq0_ (by decide) (by decide) hG_46
              refine lv_iload hx hb dX10_askModel_194 (lv_at hl 0 rfl) ?_
              refine lv_if_eq (tgt := 216) hx hb dX10_askModel_196 (by decide) (fun c_ => ?_) (fun c_ => absurd (by decide) c_)
              refine lv_iconst (v := 0) hx hb dX10_askModel_216 (by decide) ?_
              refine lv_istore (lv' := [(10, .int 0), (8, .long x_32), (7, .int r_19), (6, .ref a_17), (5, .int x_2), (0, .ref a0_), (1, .ref a1_), (2, .int x2_), (3, .ref a3_), (4, .ref a4_)]) hx hb dX10_askModel_217 hl (by decide) rfl (fun ls hl => ?_)
              refine lv_goto (tgt := 248) hx hb dX10_askModel_219 (by decide) ?_
              refine lv_aload_n hx hb dX10_askModel_248 rfl (lv_at hl 6 rfl) ?_
              refine lv_iload hx hb dX10_askModel_249 (lv_at hl 0 rfl) ?_
              refine lv_if_eq (tgt := 258) hx hb dX10_askModel_251 (by decide) (fun c_ => ?_) (fun c_ => absurd (by decide) c_)
              refine lv_bipush (v := 6) hx hb dX10_askModel_258 (by decide) ?_
              have kb_6 : bd 6 6 (6 : Int32) := ⟨by decide, by decide⟩
              have go_ := g
              refine g_put (C := RX4) (T := TX4) (N := 17) hx hb hts (mc_ inX4) tyX4 tyX4_ok nmX4 hown hK g ma1_ ka1_ (by decide) rfl 0 (by decide) (hts _ (List.mem_cons_of_mem _ t_837)) (fun _ h9 => h9) rfl rfl (okV_i (bd_sub kb_6 (by decide))) rfl rfl (by decide) (Or.inr (Or.inl (by decide))) (fx' := [(4, 5, a1_, .long x_57), (1, 17, a_33, .long x_57), (4, 15, a1_, .int x_51), (1, 15, a_33, .int x_50), (1, 11, a_33, .int x_47), (1, 12, a_33, .int 1), (1, 6, a_33, .int 0), (1, 5, a_33, .int 0), (1, 4, a_33, .ref a4_), (1, 3, a_33, .ref a_36), (1, 2, a_33, .ref a_35), (1, 1, a_33, .ref a_17), (1, 0, a_33, .ref q0_), (4, 10, a1_, .ref a_34), (10, 1, a0_, .ref a_33), (6, 3, a3_, .int x_30), (6, 3, a_28, .int x_29), (9, 9, a_17, .ref a_26), (7, 2, q0_, .ref a_25), (6, 0, a3_, .long x_18), (7, 0, q0_, .ref a_16), (4, 8, a1_, .ref a_1), (10, 0, a0_, .ref q0_), (7, 1, q0_, .int y0_), (4, 6, a1_, .int y1_), (4, 14, a1_, .int y2_)]) rfl dX10_askModel_260 (fun f H locs hM_60 g => ?_)
              have hG_61 := cOK.frame hM_60 go_.2.2.2.1 mq0_ kq0_ (by decide) (by decide) hG_59
              subst hQ
              exact W.vret hx hb hr (fun t ht hW => ⟨⟨_, rfl, trivial, q3_of g hK ht hW⟩, g.2.2.1.F ht⟩) g.2.2.1.2.2 dX10_askModel_263
          · have fc_52 := eq_f c_52
            refine lv_iconst (v := 1) hx hb dX10_askModel_165 (by decide) ?_
            refine lv_goto (tgt := 170) hx hb dX10_askModel_166 (by decide) ?_
            refine lv_istore (lv' := [(10, .int 1), (8, .long x_32), (7, .int r_19), (6, .ref a_17), (5, .int x_2), (0, .ref a0_), (1, .ref a1_), (2, .int x2_), (3, .ref a3_), (4, .ref a4_)]) hx hb dX10_askModel_170 hl (by decide) rfl (fun ls hl => ?_)
            refine lv_aload_n hx hb dX10_askModel_172 rfl (lv_at hl 5 rfl) ?_
            refine g_getk (C := RX10) (T := TX10) (N := 10) hx hb hts (mc_ inX10) hown hK g rfl 1 (by decide) rfl (hts _ (List.mem_cons_of_mem _ t_913)) (fun _ h9 => h9) 12 rfl dX10_askModel_173 ?_
            refine g_getk (C := RX1) (T := TX1) (N := 18) hx hb hts (mc_ inX1) hown hK g rfl 15 (by decide) rfl (hts _ (List.mem_cons_of_mem _ t_751)) (fun _ h9 => h9) 1 rfl dX10_askModel_176 ?_
            refine lv_iconst (v := 2) hx hb dX10_askModel_179 (by decide) ?_
            have kb_2 : bd 2 2 (2 : Int32) := ⟨by decide, by decide⟩
            refine lv_icmp_ne (tgt := 222) hx hb dX10_askModel_180 (by decide) (fun c_62 => ?_) (fun c_62 => ?_)
            · have fc_62 := neq_f c_62
              refine lv_iload hx hb dX10_askModel_222 (lv_at hl 0 rfl) ?_
              refine lv_if_eq (tgt := 245) hx hb dX10_askModel_224 (by decide) (fun c_ => absurd c_ (by decide)) (fun c_ => ?_)
              refine lv_aload_n hx hb dX10_askModel_227 rfl (lv_at hl 5 rfl) ?_
              refine g_getk (C := RX10) (T := TX10) (N := 10) hx hb hts (mc_ inX10) hown hK g rfl 1 (by decide) rfl (hts _ (List.mem_cons_of_mem _ t_913)) (fun _ h9 => h9) 12 rfl dX10_askModel_228 ?_
              refine g_geti (C := RX1) (T := TX1) (N := 18) hx hb hts (mc_ inX1) hown hK g ma_33 ka_33 (by decide) rfl 16 (by decide) rfl (hts _ (List.mem_cons_of_mem _ t_753)) (fun _ h9 => h9) rfl dX10_askModel_231 (fun x_63 bx_63 g => ?_)
              refine lv_aload_n hx hb dX10_askModel_234 rfl (lv_at hl 6 rfl) ?_
              refine g_geti (C := RX4) (T := TX4) (N := 17) hx hb hts (mc_ inX4) hown hK g ma1_ ka1_ (by decide) rfl 16 (by decide) rfl (hts _ (List.mem_cons_of_mem _ t_876)) (fun _ h9 => h9) rfl dX10_askModel_235 (fun x_64 bx_64 g => ?_)
              refine lv_icmp_ne (tgt := 245) hx hb dX10_askModel_238 (by decide) (fun c_65 => ?_) (fun c_65 => ?_)
              · have fc_65 := neq_f c_65
                refine lv_iconst (v := 0) hx hb dX10_askModel_245 (by decide) ?_
                refine lv_istore (lv' := [(10, .int 0), (8, .long x_32), (7, .int r_19), (6, .ref a_17), (5, .int x_2), (0, .ref a0_), (1, .ref a1_), (2, .int x2_), (3, .ref a3_), (4, .ref a4_)]) hx hb dX10_askModel_246 hl (by decide) rfl (fun ls hl => ?_)
                refine lv_aload_n hx hb dX10_askModel_248 rfl (lv_at hl 6 rfl) ?_
                refine lv_iload hx hb dX10_askModel_249 (lv_at hl 0 rfl) ?_
                refine lv_if_eq (tgt := 258) hx hb dX10_askModel_251 (by decide) (fun c_ => ?_) (fun c_ => absurd (by decide) c_)
                refine lv_bipush (v := 6) hx hb dX10_askModel_258 (by decide) ?_
                have kb_6 : bd 6 6 (6 : Int32) := ⟨by decide, by decide⟩
                have go_ := g
                refine g_put (C := RX4) (T := TX4) (N := 17) hx hb hts (mc_ inX4) tyX4 tyX4_ok nmX4 hown hK g ma1_ ka1_ (by decide) rfl 0 (by decide) (hts _ (List.mem_cons_of_mem _ t_837)) (fun _ h9 => h9) rfl rfl (okV_i (bd_sub kb_6 (by decide))) rfl rfl (by decide) (Or.inr (Or.inl (by decide))) (fx' := [(4, 16, a1_, .int x_64), (1, 16, a_33, .int x_63), (4, 15, a1_, .int x_51), (1, 15, a_33, .int x_50), (1, 11, a_33, .int x_47), (1, 12, a_33, .int 1), (1, 6, a_33, .int 0), (1, 5, a_33, .int 0), (1, 4, a_33, .ref a4_), (1, 3, a_33, .ref a_36), (1, 2, a_33, .ref a_35), (1, 1, a_33, .ref a_17), (1, 0, a_33, .ref q0_), (4, 10, a1_, .ref a_34), (10, 1, a0_, .ref a_33), (4, 5, a1_, .long x_32), (6, 3, a3_, .int x_30), (6, 3, a_28, .int x_29), (9, 9, a_17, .ref a_26), (7, 2, q0_, .ref a_25), (6, 0, a3_, .long x_18), (7, 0, q0_, .ref a_16), (4, 8, a1_, .ref a_1), (10, 0, a0_, .ref q0_), (7, 1, q0_, .int y0_), (4, 6, a1_, .int y1_), (4, 14, a1_, .int y2_)]) rfl dX10_askModel_260 (fun f H locs hM_66 g => ?_)
                have hG_67 := cOK.frame hM_66 go_.2.2.2.1 mq0_ kq0_ (by decide) (by decide) hG_46
                subst hQ
                exact W.vret hx hb hr (fun t ht hW => ⟨⟨_, rfl, trivial, q3_of g hK ht hW⟩, g.2.2.1.F ht⟩) g.2.2.1.2.2 dX10_askModel_263
              · have fc_65 := eq_f c_65
                refine lv_iconst (v := 1) hx hb dX10_askModel_241 (by decide) ?_
                refine lv_goto (tgt := 246) hx hb dX10_askModel_242 (by decide) ?_
                refine lv_istore (lv' := [(10, .int 1), (8, .long x_32), (7, .int r_19), (6, .ref a_17), (5, .int x_2), (0, .ref a0_), (1, .ref a1_), (2, .int x2_), (3, .ref a3_), (4, .ref a4_)]) hx hb dX10_askModel_246 hl (by decide) rfl (fun ls hl => ?_)
                refine lv_aload_n hx hb dX10_askModel_248 rfl (lv_at hl 6 rfl) ?_
                refine lv_iload hx hb dX10_askModel_249 (lv_at hl 0 rfl) ?_
                refine lv_if_eq (tgt := 258) hx hb dX10_askModel_251 (by decide) (fun c_ => absurd c_ (by decide)) (fun c_ => ?_)
                refine lv_iconst (v := 0) hx hb dX10_askModel_254 (by decide) ?_
                refine lv_goto (tgt := 260) hx hb dX10_askModel_255 (by decide) ?_
                have go_ := g
                refine g_put (C := RX4) (T := TX4) (N := 17) hx hb hts (mc_ inX4) tyX4 tyX4_ok nmX4 hown hK g ma1_ ka1_ (by decide) rfl 0 (by decide) (hts _ (List.mem_cons_of_mem _ t_837)) (fun _ h9 => h9) rfl rfl (okV_i (bd_sub kb_0 (by decide))) rfl rfl (by decide) (Or.inr (Or.inl (by decide))) (fx' := [(4, 16, a1_, .int x_64), (1, 16, a_33, .int x_63), (4, 15, a1_, .int x_51), (1, 15, a_33, .int x_50), (1, 11, a_33, .int x_47), (1, 12, a_33, .int 1), (1, 6, a_33, .int 0), (1, 5, a_33, .int 0), (1, 4, a_33, .ref a4_), (1, 3, a_33, .ref a_36), (1, 2, a_33, .ref a_35), (1, 1, a_33, .ref a_17), (1, 0, a_33, .ref q0_), (4, 10, a1_, .ref a_34), (10, 1, a0_, .ref a_33), (4, 5, a1_, .long x_32), (6, 3, a3_, .int x_30), (6, 3, a_28, .int x_29), (9, 9, a_17, .ref a_26), (7, 2, q0_, .ref a_25), (6, 0, a3_, .long x_18), (7, 0, q0_, .ref a_16), (4, 8, a1_, .ref a_1), (10, 0, a0_, .ref q0_), (7, 1, q0_, .int y0_), (4, 6, a1_, .int y1_), (4, 14, a1_, .int y2_)]) rfl dX10_askModel_260 (fun f H locs hM_68 g => ?_)
                have hG_69 := cOK.frame hM_68 go_.2.2.2.1 mq0_ kq0_ (by decide) (by decide) hG_46
                subst hQ
                exact W.vret hx hb hr (fun t ht hW => ⟨⟨_, rfl, trivial, q3_of g hK ht hW⟩, g.2.2.1.F ht⟩) g.2.2.1.2.2 dX10_askModel_263
            · have fc_62 := eq_f c_62
              have b_70 : bd 2 2 x_50 := eqX fc_62 (bdT x_50) kb_2 (by decide)
              refine lv_aload_n hx hb dX10_askModel_183 rfl (lv_at hl 6 rfl) ?_
              refine lv_aload_n hx hb dX10_askModel_184 rfl (lv_at hl 5 rfl) ?_
              refine g_getk (C := RX10) (T := TX10) (N := 10) hx hb hts (mc_ inX10) hown hK g rfl 1 (by decide) rfl (hts _ (List.mem_cons_of_mem _ t_913)) (fun _ h9 => h9) 12 rfl dX10_askModel_185 ?_
              refine g_getl (C := RX1) (T := TX1) (N := 18) hx hb hts (mc_ inX1) hown hK g ma_33 ka_33 (by decide) rfl 17 (by decide) rfl (hts _ (List.mem_cons_of_mem _ t_755)) (fun _ h9 => h9) rfl dX10_askModel_188 (fun x_71 g => ?_)
              have go_ := g
              refine g_put (C := RX4) (T := TX4) (N := 17) hx hb hts (mc_ inX4) tyX4 tyX4_ok nmX4 hown hK g ma1_ ka1_ (by decide) rfl 5 (by decide) (hts _ (List.mem_cons_of_mem _ t_848)) (fun _ h9 => h9) rfl rfl okV_l rfl rfl (by decide) (Or.inr (Or.inl (by decide))) (fx' := [(1, 17, a_33, .long x_71), (4, 15, a1_, .int x_51), (1, 15, a_33, .int x_50), (1, 11, a_33, .int x_47), (1, 12, a_33, .int 1), (1, 6, a_33, .int 0), (1, 5, a_33, .int 0), (1, 4, a_33, .ref a4_), (1, 3, a_33, .ref a_36), (1, 2, a_33, .ref a_35), (1, 1, a_33, .ref a_17), (1, 0, a_33, .ref q0_), (4, 10, a1_, .ref a_34), (10, 1, a0_, .ref a_33), (6, 3, a3_, .int x_30), (6, 3, a_28, .int x_29), (9, 9, a_17, .ref a_26), (7, 2, q0_, .ref a_25), (6, 0, a3_, .long x_18), (7, 0, q0_, .ref a_16), (4, 0, a1_, .int x_3), (4, 8, a1_, .ref a_1), (10, 0, a0_, .ref q0_), (7, 1, q0_, .int y0_), (4, 6, a1_, .int y1_), (4, 14, a1_, .int y2_)]) rfl dX10_askModel_191 (fun f H locs hM_72 g => ?_)
              have hG_73 := cOK.frame hM_72 go_.2.2.2.1 mq0_ kq0_ (by decide) (by decide) hG_46
              refine lv_iload hx hb dX10_askModel_194 (lv_at hl 0 rfl) ?_
              refine lv_if_eq (tgt := 216) hx hb dX10_askModel_196 (by decide) (fun c_ => absurd c_ (by decide)) (fun c_ => ?_)
              refine lv_aload_n hx hb dX10_askModel_199 rfl (lv_at hl 5 rfl) ?_
              refine g_getk (C := RX10) (T := TX10) (N := 10) hx hb hts (mc_ inX10) hown hK g rfl 1 (by decide) rfl (hts _ (List.mem_cons_of_mem _ t_913)) (fun _ h9 => h9) 14 rfl dX10_askModel_200 ?_
              refine g_getk (C := RX1) (T := TX1) (N := 18) hx hb hts (mc_ inX1) hown hK g rfl 17 (by decide) rfl (hts _ (List.mem_cons_of_mem _ t_755)) (fun _ h9 => h9) 1 rfl dX10_askModel_203 ?_
              refine lv_lload hx hb dX10_askModel_206 (lv_at hl 1 rfl) ?_
              refine W.lcmp hx hb dX10_askModel_208 ?_
              refine lv_if_ne (tgt := 216) hx hb dX10_askModel_209 (by decide) (fun c_74 => ?_) (fun c_74 => ?_)
              · refine lv_iconst (v := 0) hx hb dX10_askModel_216 (by decide) ?_
                refine lv_istore (lv' := [(10, .int 0), (8, .long x_32), (7, .int r_19), (6, .ref a_17), (5, .int x_2), (0, .ref a0_), (1, .ref a1_), (2, .int x2_), (3, .ref a3_), (4, .ref a4_)]) hx hb dX10_askModel_217 hl (by decide) rfl (fun ls hl => ?_)
                refine lv_goto (tgt := 248) hx hb dX10_askModel_219 (by decide) ?_
                refine lv_aload_n hx hb dX10_askModel_248 rfl (lv_at hl 6 rfl) ?_
                refine lv_iload hx hb dX10_askModel_249 (lv_at hl 0 rfl) ?_
                refine lv_if_eq (tgt := 258) hx hb dX10_askModel_251 (by decide) (fun c_ => ?_) (fun c_ => absurd (by decide) c_)
                refine lv_bipush (v := 6) hx hb dX10_askModel_258 (by decide) ?_
                have kb_6 : bd 6 6 (6 : Int32) := ⟨by decide, by decide⟩
                have go_ := g
                refine g_put (C := RX4) (T := TX4) (N := 17) hx hb hts (mc_ inX4) tyX4 tyX4_ok nmX4 hown hK g ma1_ ka1_ (by decide) rfl 0 (by decide) (hts _ (List.mem_cons_of_mem _ t_837)) (fun _ h9 => h9) rfl rfl (okV_i (bd_sub kb_6 (by decide))) rfl rfl (by decide) (Or.inr (Or.inl (by decide))) (fx' := [(4, 5, a1_, .long x_71), (1, 17, a_33, .long x_71), (4, 15, a1_, .int x_51), (1, 15, a_33, .int x_50), (1, 11, a_33, .int x_47), (1, 12, a_33, .int 1), (1, 6, a_33, .int 0), (1, 5, a_33, .int 0), (1, 4, a_33, .ref a4_), (1, 3, a_33, .ref a_36), (1, 2, a_33, .ref a_35), (1, 1, a_33, .ref a_17), (1, 0, a_33, .ref q0_), (4, 10, a1_, .ref a_34), (10, 1, a0_, .ref a_33), (6, 3, a3_, .int x_30), (6, 3, a_28, .int x_29), (9, 9, a_17, .ref a_26), (7, 2, q0_, .ref a_25), (6, 0, a3_, .long x_18), (7, 0, q0_, .ref a_16), (4, 8, a1_, .ref a_1), (10, 0, a0_, .ref q0_), (7, 1, q0_, .int y0_), (4, 6, a1_, .int y1_), (4, 14, a1_, .int y2_)]) rfl dX10_askModel_260 (fun f H locs hM_75 g => ?_)
                have hG_76 := cOK.frame hM_75 go_.2.2.2.1 mq0_ kq0_ (by decide) (by decide) hG_73
                subst hQ
                exact W.vret hx hb hr (fun t ht hW => ⟨⟨_, rfl, trivial, q3_of g hK ht hW⟩, g.2.2.1.F ht⟩) g.2.2.1.2.2 dX10_askModel_263
              · refine lv_iconst (v := 1) hx hb dX10_askModel_212 (by decide) ?_
                refine lv_goto (tgt := 217) hx hb dX10_askModel_213 (by decide) ?_
                refine lv_istore (lv' := [(10, .int 1), (8, .long x_32), (7, .int r_19), (6, .ref a_17), (5, .int x_2), (0, .ref a0_), (1, .ref a1_), (2, .int x2_), (3, .ref a3_), (4, .ref a4_)]) hx hb dX10_askModel_217 hl (by decide) rfl (fun ls hl => ?_)
                refine lv_goto (tgt := 248) hx hb dX10_askModel_219 (by decide) ?_
                refine lv_aload_n hx hb dX10_askModel_248 rfl (lv_at hl 6 rfl) ?_
                refine lv_iload hx hb dX10_askModel_249 (lv_at hl 0 rfl) ?_
                refine lv_if_eq (tgt := 258) hx hb dX10_askModel_251 (by decide) (fun c_ => absurd c_ (by decide)) (fun c_ => ?_)
                refine lv_iconst (v := 0) hx hb dX10_askModel_254 (by decide) ?_
                refine lv_goto (tgt := 260) hx hb dX10_askModel_255 (by decide) ?_
                have go_ := g
                refine g_put (C := RX4) (T := TX4) (N := 17) hx hb hts (mc_ inX4) tyX4 tyX4_ok nmX4 hown hK g ma1_ ka1_ (by decide) rfl 0 (by decide) (hts _ (List.mem_cons_of_mem _ t_837)) (fun _ h9 => h9) rfl rfl (okV_i (bd_sub kb_0 (by decide))) rfl rfl (by decide) (Or.inr (Or.inl (by decide))) (fx' := [(4, 5, a1_, .long x_71), (1, 17, a_33, .long x_71), (4, 15, a1_, .int x_51), (1, 15, a_33, .int x_50), (1, 11, a_33, .int x_47), (1, 12, a_33, .int 1), (1, 6, a_33, .int 0), (1, 5, a_33, .int 0), (1, 4, a_33, .ref a4_), (1, 3, a_33, .ref a_36), (1, 2, a_33, .ref a_35), (1, 1, a_33, .ref a_17), (1, 0, a_33, .ref q0_), (4, 10, a1_, .ref a_34), (10, 1, a0_, .ref a_33), (6, 3, a3_, .int x_30), (6, 3, a_28, .int x_29), (9, 9, a_17, .ref a_26), (7, 2, q0_, .ref a_25), (6, 0, a3_, .long x_18), (7, 0, q0_, .ref a_16), (4, 8, a1_, .ref a_1), (10, 0, a0_, .ref q0_), (7, 1, q0_, .int y0_), (4, 6, a1_, .int y1_), (4, 14, a1_, .int y2_)]) rfl dX10_askModel_260 (fun f H locs hM_77 g => ?_)
                have hG_78 := cOK.frame hM_77 go_.2.2.2.1 mq0_ kq0_ (by decide) (by decide) hG_73
                subst hQ
                exact W.vret hx hb hr (fun t ht hW => ⟨⟨_, rfl, trivial, q3_of g hK ht hW⟩, g.2.2.1.F ht⟩) g.2.2.1.2.2 dX10_askModel_263
        · have fc_31 := neq_f c_31
          subst hQ
          exact W.vret hx hb hr (fun t ht hW => ⟨⟨_, rfl, trivial, q3_of g hK ht hW⟩, g.2.2.1.F ht⟩) g.2.2.1.2.2 dX10_askModel_87
