set_option maxHeartbeats 4000000 in
set_option maxRecDepth 100000 in
theorem r_X10_fieldsThatMayChange (l : Launch) (dC : Nat → ClassId) (dI : Nat → Nat → Nat) (L : List Nat) (kd : Nat → Nat) (tys : List (ClassId × FieldType)) (f0 : Nat → va_E) (sz : Nat) (hWT : WT L kd tys f0) (a0_ : Nat) (ma0_ : a0_ ∈ L) (ka0_ : kd a0_ = 10) (x1_ : Int32) (bx1_ : bd 0 95 x1_) : Met l yX10_fieldsThatMayChange (.code yX10_fieldsThatMayChange cX10_fieldsThatMayChange 7 (some .int) :: lw_g) ({ frames := 2, cells := 0, slots := 0, locals := 34 }) (va_Pc [.ref a0_, .int x1_] (P3 (dC, dI) L tys f0 sz)) (va_Qi (fun (r : Int32) (f : Nat → va_E) => (True)) (Q3 (dC, dI) L kd tys [] [] f0 sz) (pA L sz)) 0 0 (pA L sz) := by
  refine Met.ofW (cc := cX10_fieldsThatMayChange) (maxL := 7) (ret := (some .int)) (by decide) rfl ?_
  intro p e s m args below meth c s₁ B hml hv
  obtain ⟨rfl, hsz, hP, hK, hD0⟩ := hv
  have hx := B.exec
  have hb := B.bytes
  have hr := B.returns
  have hts := atoms_spec (ws := (.code yX10_fieldsThatMayChange cX10_fieldsThatMayChange 7 (some .int) :: lw_g)) B.pre
  have hown : s.vm.findClass RX10 = some m.cls := findClass_of_methodNamed B.named
  have hlocks := B.notSynchronized
  subst hsz
  have g : G3 (dC, dI) L kd tys s f0 [] [] f0 s.heap [] [] := G3.start hP hD0 hWT Fs.nil
  have hl := lv_entry ([.ref a0_, .int x1_]) (n := 7) (Nat.le_of_ble_eq_true rfl)
  rw [lg_entry_eq]
  generalize (lg_sl ([.ref a0_, .int x1_]) ++ List.replicate (7 - (lg_sl ([.ref a0_, .int x1_])).length) Slot.unset).toArray = ls at hl ⊢
  have hl : lv_has ls 7 [(0, .ref a0_), (1, .int x1_)] := hl
  refine W_q (fun Q hQ => ?_)
  refine lv_iconst (v := (-1)) hx hb dX10_fieldsThatMayChange_0 (by decide) ?_
  refine lv_istore_n (lv' := [(2, .int (-1)), (0, .ref a0_), (1, .int x1_)]) hx hb dX10_fieldsThatMayChange_1 rfl hl (by decide) rfl (fun ls hl => ?_)
  refine lv_iload_n hx hb dX10_fieldsThatMayChange_2 rfl (lv_at hl 2 rfl) ?_
  refine lv_istore_n (lv' := [(3, .int x1_), (2, .int (-1)), (0, .ref a0_), (1, .int x1_)]) hx hb dX10_fieldsThatMayChange_3 rfl hl (by decide) rfl (fun ls hl => ?_)
  refine lv_iconst (v := 0) hx hb dX10_fieldsThatMayChange_4 (by decide) ?_
  refine lv_istore (lv' := [(4, .int 0), (3, .int x1_), (2, .int (-1)), (0, .ref a0_), (1, .int x1_)]) hx hb dX10_fieldsThatMayChange_5 hl (by decide) rfl (fun ls hl => ?_)
  have loop_1 : ∀ (n : Nat) (v7_4 : Int32) (v7_3 : Int32) (v7_2 : Int32), bd 0 8 v7_4 → bd (-1) 95 v7_3 → (8 - v7_4.toInt < (n : Int)) → ∀ (f : Nat → va_E) (H : Heap) (locs : List Loc) (ls : Array Slot), G3 (dC, dI) L kd tys s f0 [] [] f H locs [] → lv_has ls 7 [(4, .int v7_4), (3, .int v7_3), (2, .int v7_2), (0, .ref a0_), (1, .int x1_)] → W p l e ({ frames := 2, cells := 0, slots := 0, locals := 34 } : Room) s m [.ref a0_, .int x1_].toArray below meth c H locs 0 0 Q (F0 m 7 ls []) := by
    intro n7
    induction n7 with
    | zero =>
      intro v7_4 v7_3 v7_2 bv7_4 bv7_3  hm7 f H locs ls g  hl
      exact absurd hm7 (by have h9_v7_4 := bv7_4; unfold bd at h9_v7_4; have h9_v7_3 := bv7_3; unfold bd at h9_v7_3; have h9_v7_2 := bdT v7_2; unfold bd at h9_v7_2; omega)
    | succ n7 ih7 =>
      intro v7_4 v7_3 v7_2 bv7_4 bv7_3  hm7 f H locs ls g  hl
      refine lv_iload hx hb dX10_fieldsThatMayChange_7 (lv_at hl 0 rfl) ?_
      refine lv_bipush (v := 8) hx hb dX10_fieldsThatMayChange_9 (by decide) ?_
      have kb_8 : bd 8 8 (8 : Int32) := ⟨by decide, by decide⟩
      refine lv_icmp_ge (tgt := 96) hx hb dX10_fieldsThatMayChange_11 (by decide) (fun c_2 => ?_) (fun c_2 => ?_)
      · have fc_2 := le_f c_2
        have b_3 : bd 8 8 v7_4 := leR fc_2 kb_8 bv7_4 (by decide)
        refine lv_iload_n hx hb dX10_fieldsThatMayChange_96 rfl (lv_at hl 2 rfl) ?_
        subst hQ
        exact W.iret (v := v7_2) hx hb hr (fun t ht hW => ⟨⟨_, _, rfl, trivial, q3_of g hK ht hW⟩, g.2.2.1.F ht⟩) g.2.2.1.2.2 dX10_fieldsThatMayChange_97
      · have fc_2 := nle_f c_2
        have b_4 : bd 0 7 v7_4 := ltL fc_2 bv7_4 kb_8 (by decide)
        refine lv_iload_n hx hb dX10_fieldsThatMayChange_14 rfl (lv_at hl 1 rfl) ?_
        refine lv_iconst (v := (-1)) hx hb dX10_fieldsThatMayChange_15 (by decide) ?_
        have kb_m1 : bd (-1) (-1) ((-1) : Int32) := ⟨by decide, by decide⟩
        refine lv_icmp_eq (tgt := 96) hx hb dX10_fieldsThatMayChange_16 (by decide) (fun c_5 => ?_) (fun c_5 => ?_)
        · have fc_5 := eq_f c_5
          have b_6 : bd (-1) (-1) v7_3 := eqX fc_5 bv7_3 kb_m1 (by decide)
          refine lv_iload_n hx hb dX10_fieldsThatMayChange_96 rfl (lv_at hl 2 rfl) ?_
          subst hQ
          exact W.iret (v := v7_2) hx hb hr (fun t ht hW => ⟨⟨_, _, rfl, trivial, q3_of g hK ht hW⟩, g.2.2.1.F ht⟩) g.2.2.1.2.2 dX10_fieldsThatMayChange_97
        · have fc_5 := neq_f c_5
          have b_7 : bd 0 95 v7_3 := neX fc_5 bv7_3 kb_m1 (by decide)
          refine lv_aload_n hx hb dX10_fieldsThatMayChange_19 rfl (lv_at hl 3 rfl) ?_
          refine lv_iload_n hx hb dX10_fieldsThatMayChange_20 rfl (lv_at hl 1 rfl) ?_
          refine g_calli (va_runV (As := [.int v7_3]) (rest := []) ⟨hx, hb, hml, hown, hts⟩ (r_X10_lastMark l dC dI L kd tys f H.size g.2.2.2.1 a0_ ma0_ ka0_ v7_3 b_7) (cwV 1 hts (gV_ t_1620 t_1622 t_71 t_194 t_1623) rfl rfl rfl (by decide +kernel) ⟨(Nat.le_of_ble_eq_true rfl), (Nat.le_of_ble_eq_true rfl)⟩) (pre3V g hK ma0_ ka0_ (by decide) (q := (RX10, TX10, 10)) rfl) rfl rfl hl.1 rfl (lv_room (Nat.le_of_ble_eq_true rfl)) dX10_fieldsThatMayChange_21 ⟨(Nat.le_of_ble_eq_true rfl), (Nat.le_of_ble_eq_true rfl)⟩) g hK (by decide) (by decide) (fx' := []) rfl (fun r_8 fr_8 H locs hp hMr_8 g => ?_)
          obtain ⟨h_9, -⟩ := hp
          refine lv_istore (lv' := [(5, .int r_8), (4, .int v7_4), (3, .int v7_3), (2, .int v7_2), (0, .ref a0_), (1, .int x1_)]) hx hb dX10_fieldsThatMayChange_24 hl (by decide) rfl (fun ls hl => ?_)
          refine lv_aload_n hx hb dX10_fieldsThatMayChange_26 rfl (lv_at hl 4 rfl) ?_
          refine g_getr (K := 7) (C := RX10) (T := TX10) (N := 10) hx hb hts (mc_ inX10) hown hK g ma0_ ka0_ (by decide) rfl 0 (by decide) rfl (hts _ (List.mem_cons_of_mem _ t_912)) (fun _ h9 => h9) rfl dX10_fieldsThatMayChange_27 (fun a_10 ma_10 ka_10 g => ?_)
          refine g_getr (K := 137) (C := RX7) (T := TX7) (N := 19) hx hb hts (mc_ inX7) hown hK g ma_10 ka_10 (by decide) rfl 2 (by decide) rfl (hts _ (List.mem_cons_of_mem _ t_634)) (fun _ h9 => h9) rfl dX10_fieldsThatMayChange_30 (fun a_11 ma_11 ka_11 g => ?_)
          refine lv_iload_n hx hb dX10_fieldsThatMayChange_33 rfl (lv_at hl 2 rfl) ?_
          refine g_aald hx hb hK g ma_11 ka_11 (by decide) rfl (by decide) (in_bd b_7 (by decide)) dX10_fieldsThatMayChange_34 (fun a_12 ma_12 ua_12 wa_12 => ?_)
          have ka_12 : kd a_12 = 6 := by omega
          refine g_geti (C := RX6) (T := TX6) (N := 13) hx hb hts (mc_ inX6) hown hK g ma_12 ka_12 (by decide) rfl 11 (by decide) rfl (hts _ (List.mem_cons_of_mem _ t_590)) (fun _ h9 => h9) rfl dX10_fieldsThatMayChange_35 (fun x_13 bx_13 g => ?_)
          refine lv_istore (lv' := [(6, .int x_13), (5, .int r_8), (4, .int v7_4), (3, .int v7_3), (2, .int v7_2), (0, .ref a0_), (1, .int x1_)]) hx hb dX10_fieldsThatMayChange_38 hl (by decide) rfl (fun ls hl => ?_)
          have loop_14 : ∀ (n : Nat) (v40_6 : Int32) (v40_2 : Int32), bd 0 500 v40_6 → (500 - v40_6.toInt < (n : Int)) → ∀ (f : Nat → va_E) (H : Heap) (locs : List Loc) (ls : Array Slot), G3 (dC, dI) L kd tys s f0 [] [] f H locs [(6, 11, a_12, .int x_13), (7, 2, a_10, .ref a_11), (10, 0, a0_, .ref a_10)] → lv_has ls 7 [(6, .int v40_6), (5, .int r_8), (4, .int v7_4), (3, .int v7_3), (2, .int v40_2), (0, .ref a0_), (1, .int x1_)] → W p l e ({ frames := 2, cells := 0, slots := 0, locals := 34 } : Room) s m [.ref a0_, .int x1_].toArray below meth c H locs 0 0 Q (F0 m 40 ls []) := by
            intro n40
            induction n40 with
            | zero =>
              intro v40_6 v40_2 bv40_6  hm40 f H locs ls g  hl
              exact absurd hm40 (by have h9_v40_6 := bv40_6; unfold bd at h9_v40_6; have h9_v40_2 := bdT v40_2; unfold bd at h9_v40_2; omega)
            | succ n40 ih40 =>
              intro v40_6 v40_2 bv40_6  hm40 f H locs ls g  hl
              refine lv_iload hx hb dX10_fieldsThatMayChange_40 (lv_at hl 0 rfl) ?_
              refine lv_iload hx hb dX10_fieldsThatMayChange_42 (lv_at hl 1 rfl) ?_
              refine lv_icmp_gt (tgt := 84) hx hb dX10_fieldsThatMayChange_44 (by decide) (fun c_15 => ?_) (fun c_15 => ?_)
              · have fc_15 := lt_f c_15
                refine lv_aload_n hx hb dX10_fieldsThatMayChange_84 rfl (lv_at hl 5 rfl) ?_
                refine lv_iload_n hx hb dX10_fieldsThatMayChange_85 rfl (lv_at hl 3 rfl) ?_
                refine g_calli (va_runV (As := [.int v7_3]) (rest := []) ⟨hx, hb, hml, hown, hts⟩ (r_X10_upwards l dC dI L kd tys f H.size g.2.2.2.1 a0_ ma0_ ka0_ v7_3) (cwV 1 hts (gV_ t_1625 t_1627 t_72 t_194 t_1628) rfl rfl rfl (by decide +kernel) ⟨(Nat.le_of_ble_eq_true rfl), (Nat.le_of_ble_eq_true rfl)⟩) (pre3V g hK ma0_ ka0_ (by decide) (q := (RX10, TX10, 10)) rfl) rfl rfl hl.1 rfl (lv_room (Nat.le_of_ble_eq_true rfl)) dX10_fieldsThatMayChange_86 ⟨(Nat.le_of_ble_eq_true rfl), (Nat.le_of_ble_eq_true rfl)⟩) g hK (by decide) (by decide) (fx' := [(6, 11, a_12, .int x_13), (7, 2, a_10, .ref a_11), (10, 0, a0_, .ref a_10)]) rfl (fun r_16 fr_16 H locs hp hMr_16 g => ?_)
                obtain ⟨h_17, -⟩ := hp
                refine lv_istore_n (lv' := [(3, .int r_16), (6, .int v40_6), (5, .int r_8), (4, .int v7_4), (2, .int v40_2), (0, .ref a0_), (1, .int x1_)]) hx hb dX10_fieldsThatMayChange_89 rfl hl (by decide) rfl (fun ls hl => ?_)
                have kb_1 : bd 1 1 (1 : Int32) := ⟨by decide, by decide⟩
                obtain ⟨y_18, ey_18⟩ : ∃ z : Int32, z = v7_4 + 1 := ⟨_, rfl⟩
                refine lv_iinc (v := y_18) (lv' := [(4, .int y_18), (3, .int r_16), (6, .int v40_6), (5, .int r_8), (2, .int v40_2), (0, .ref a0_), (1, .int x1_)]) hx hb dX10_fieldsThatMayChange_90 hl (k := 3) rfl (by rw [ey_18]; rfl) (by decide) rfl (fun ls hl => ?_)
                have ty_18 := add_bd ey_18 b_4 kb_1 (by decide)
                have b_19 : bd 1 8 y_18 := add_rg ty_18 b_4 kb_1 (by decide)
                refine lv_goto (tgt := 7) hx hb dX10_fieldsThatMayChange_93 (by decide) ?_
                have hl9 := lv_sub hl [0, 1, 4, 5, 6] (by rfl : lv_pick [(4, .int y_18), (3, .int r_16), (6, .int v40_6), (5, .int r_8), (2, .int v40_2), (0, .ref a0_), (1, .int x1_)] [0, 1, 4, 5, 6] = [(4, .int y_18), (3, .int r_16), (2, .int v40_2), (0, .ref a0_), (1, .int x1_)])
                have g9 := g.sub (fx' := []) [] rfl
                exact ih7  y_18 r_16 v40_2 (bd_sub b_19 (by decide)) h_17 (by have h9_0 := b_19; unfold bd at h9_0; have h9_1 := bdT v40_2; unfold bd at h9_1; have h9_2 := bdT v7_2; unfold bd at h9_2; have h9_3 := bv7_3; unfold bd at h9_3; have h9_4 := bv7_4; unfold bd at h9_4; have h9_5 := h_17; unfold bd at h9_5; have h9_6 := kb_1; unfold bd at h9_6; have h9_7 := kb_8; unfold bd at h9_7; have h9_8 := kb_m1; unfold bd at h9_8; omega) _ _ _ _ g9  hl9
              · have fc_15 := nlt_f c_15
                have b_20 : bd 0 499 v40_6 := leL fc_15 bv40_6 h_9 (by decide)
                have b_21 : bd 0 499 r_8 := leR fc_15 bv40_6 h_9 (by decide)
                refine lv_iload_n hx hb dX10_fieldsThatMayChange_47 rfl (lv_at hl 4 rfl) ?_
                refine lv_aload_n hx hb dX10_fieldsThatMayChange_48 rfl (lv_at hl 5 rfl) ?_
                refine g_getk (C := RX10) (T := TX10) (N := 10) hx hb hts (mc_ inX10) hown hK g rfl 0 (by decide) rfl (hts _ (List.mem_cons_of_mem _ t_912)) (fun _ h9 => h9) 2 rfl dX10_fieldsThatMayChange_49 ?_
                refine g_getr (K := 140) (C := RX7) (T := TX7) (N := 19) hx hb hts (mc_ inX7) hown hK g ma_10 ka_10 (by decide) rfl 7 (by decide) rfl (hts _ (List.mem_cons_of_mem _ t_650)) (fun _ h9 => h9) rfl dX10_fieldsThatMayChange_52 (fun a_22 ma_22 ka_22 g => ?_)
                refine lv_iload hx hb dX10_fieldsThatMayChange_55 (lv_at hl 0 rfl) ?_
                refine g_iald hx hb hK g ma_22 ka_22 (by decide) rfl (in_bd b_20 (by decide)) dX10_fieldsThatMayChange_57 (fun x_23 bx_23 cx_23 => ?_)
                refine lv_iconst (v := 5) hx hb dX10_fieldsThatMayChange_58 (by decide) ?_
                have kb_5 : bd 5 5 (5 : Int32) := ⟨by decide, by decide⟩
                refine lv_icmp_ne (tgt := 75) hx hb dX10_fieldsThatMayChange_59 (by decide) (fun c_24 => ?_) (fun c_24 => ?_)
                · have fc_24 := neq_f c_24
                  refine lv_iconst (v := (-1)) hx hb dX10_fieldsThatMayChange_75 (by decide) ?_
                  refine lv_iand hx hb dX10_fieldsThatMayChange_76 ?_
                  refine lv_topi (fun y_25 ey_25 => ?_)
                  refine lv_istore_n (lv' := [(2, .int y_25), (6, .int v40_6), (5, .int r_8), (4, .int v7_4), (3, .int v7_3), (0, .ref a0_), (1, .int x1_)]) hx hb dX10_fieldsThatMayChange_77 rfl hl (by decide) rfl (fun ls hl => ?_)
                  have kb_1 : bd 1 1 (1 : Int32) := ⟨by decide, by decide⟩
                  obtain ⟨y_26, ey_26⟩ : ∃ z : Int32, z = v40_6 + 1 := ⟨_, rfl⟩
                  refine lv_iinc (v := y_26) (lv' := [(6, .int y_26), (2, .int y_25), (5, .int r_8), (4, .int v7_4), (3, .int v7_3), (0, .ref a0_), (1, .int x1_)]) hx hb dX10_fieldsThatMayChange_78 hl (k := 1) rfl (by rw [ey_26]; rfl) (by decide) rfl (fun ls hl => ?_)
                  have ty_26 := add_bd ey_26 b_20 kb_1 (by decide)
                  have b_27 : bd 1 500 y_26 := add_rg ty_26 b_20 kb_1 (by decide)
                  refine lv_goto (tgt := 40) hx hb dX10_fieldsThatMayChange_81 (by decide) ?_
                  have hl9 := lv_sub hl [0, 2, 3, 4, 1, 5, 6] (by rfl : lv_pick [(6, .int y_26), (2, .int y_25), (5, .int r_8), (4, .int v7_4), (3, .int v7_3), (0, .ref a0_), (1, .int x1_)] [0, 2, 3, 4, 1, 5, 6] = [(6, .int y_26), (5, .int r_8), (4, .int v7_4), (3, .int v7_3), (2, .int y_25), (0, .ref a0_), (1, .int x1_)])
                  have g9 := g.sub (fx' := [(6, 11, a_12, .int x_13), (7, 2, a_10, .ref a_11), (10, 0, a0_, .ref a_10)]) [1, 2, 3] rfl
                  exact ih40  y_26 y_25 (bd_sub b_27 (by decide)) (by have h9_0 := b_27; unfold bd at h9_0; have h9_1 := bdT v40_2; unfold bd at h9_1; have h9_2 := bdT y_25; unfold bd at h9_2; have h9_3 := bv40_6; unfold bd at h9_3; have h9_4 := kb_1; unfold bd at h9_4; have h9_5 := kb_5; unfold bd at h9_5; have h9_6 := kb_8; unfold bd at h9_6; have h9_7 := kb_m1; unfold bd at h9_7; omega) _ _ _ _ g9  hl9
                · have fc_24 := eq_f c_24
                  have b_28 : bd 5 5 x_23 := eqX fc_24 (bdT x_23) kb_5 (by decide)
                  refine lv_aload_n hx hb dX10_fieldsThatMayChange_62 rfl (lv_at hl 5 rfl) ?_
                  refine g_getk (C := RX10) (T := TX10) (N := 10) hx hb hts (mc_ inX10) hown hK g rfl 0 (by decide) rfl (hts _ (List.mem_cons_of_mem _ t_912)) (fun _ h9 => h9) 3 rfl dX10_fieldsThatMayChange_63 ?_
                  refine g_getr (K := 143) (C := RX7) (T := TX7) (N := 19) hx hb hts (mc_ inX7) hown hK g ma_10 ka_10 (by decide) rfl 10 (by decide) rfl (hts _ (List.mem_cons_of_mem _ t_660)) (fun _ h9 => h9) rfl dX10_fieldsThatMayChange_66 (fun a_29 ma_29 ka_29 g => ?_)
                  refine lv_iload hx hb dX10_fieldsThatMayChange_69 (lv_at hl 0 rfl) ?_
                  refine g_iald hx hb hK g ma_29 ka_29 (by decide) rfl (in_bd b_20 (by decide)) dX10_fieldsThatMayChange_71 (fun x_30 bx_30 cx_30 => ?_)
                  refine lv_goto (tgt := 76) hx hb dX10_fieldsThatMayChange_72 (by decide) ?_
                  refine lv_iand hx hb dX10_fieldsThatMayChange_76 ?_
                  refine lv_topi (fun y_31 ey_31 => ?_)
                  refine lv_istore_n (lv' := [(2, .int y_31), (6, .int v40_6), (5, .int r_8), (4, .int v7_4), (3, .int v7_3), (0, .ref a0_), (1, .int x1_)]) hx hb dX10_fieldsThatMayChange_77 rfl hl (by decide) rfl (fun ls hl => ?_)
                  have kb_1 : bd 1 1 (1 : Int32) := ⟨by decide, by decide⟩
                  obtain ⟨y_32, ey_32⟩ : ∃ z : Int32, z = v40_6 + 1 := ⟨_, rfl⟩
                  refine lv_iinc (v := y_32) (lv' := [(6, .int y_32), (2, .int y_31), (5, .int r_8), (4, .int v7_4), (3, .int v7_3), (0, .ref a0_), (1, .int x1_)]) hx hb dX10_fieldsThatMayChange_78 hl (k := 1) rfl (by rw [ey_32]; rfl) (by decide) rfl (fun ls hl => ?_)
                  have ty_32 := add_bd ey_32 b_20 kb_1 (by decide)
                  have b_33 : bd 1 500 y_32 := add_rg ty_32 b_20 kb_1 (by decide)
                  refine lv_goto (tgt := 40) hx hb dX10_fieldsThatMayChange_81 (by decide) ?_
                  have hl9 := lv_sub hl [0, 2, 3, 4, 1, 5, 6] (by rfl : lv_pick [(6, .int y_32), (2, .int y_31), (5, .int r_8), (4, .int v7_4), (3, .int v7_3), (0, .ref a0_), (1, .int x1_)] [0, 2, 3, 4, 1, 5, 6] = [(6, .int y_32), (5, .int r_8), (4, .int v7_4), (3, .int v7_3), (2, .int y_31), (0, .ref a0_), (1, .int x1_)])
                  have g9 := g.sub (fx' := [(6, 11, a_12, .int x_13), (7, 2, a_10, .ref a_11), (10, 0, a0_, .ref a_10)]) [2, 3, 4] rfl
                  exact ih40  y_32 y_31 (bd_sub b_33 (by decide)) (by have h9_0 := b_33; unfold bd at h9_0; have h9_1 := bdT v40_2; unfold bd at h9_1; have h9_2 := bdT y_31; unfold bd at h9_2; have h9_3 := bv40_6; unfold bd at h9_3; have h9_4 := kb_1; unfold bd at h9_4; have h9_5 := kb_5; unfold bd at h9_5; have h9_6 := kb_8; unfold bd at h9_6; have h9_7 := kb_m1; unfold bd at h9_7; omega) _ _ _ _ g9  hl9
          have hl9 := lv_sub hl [0, 1, 2, 3, 4, 5, 6] (by rfl : lv_pick [(6, .int x_13), (5, .int r_8), (4, .int v7_4), (3, .int v7_3), (2, .int v7_2), (0, .ref a0_), (1, .int x1_)] [0, 1, 2, 3, 4, 5, 6] = [(6, .int x_13), (5, .int r_8), (4, .int v7_4), (3, .int v7_3), (2, .int v7_2), (0, .ref a0_), (1, .int x1_)])
          have g9 := g.sub (fx' := [(6, 11, a_12, .int x_13), (7, 2, a_10, .ref a_11), (10, 0, a0_, .ref a_10)]) [0, 1, 2] rfl
          exact loop_14 (1003) x_13 v7_2 bx_13 (by have h9_0 := bdT v7_2; unfold bd at h9_0; have h9_1 := bx_13; unfold bd at h9_1; have h9_2 := kb_8; unfold bd at h9_2; have h9_3 := kb_m1; unfold bd at h9_3; omega) _ _ _ _ g9  hl9
  have kb_0 : bd 0 0 (0 : Int32) := ⟨by decide, by decide⟩
  have kb_m1 : bd (-1) (-1) ((-1) : Int32) := ⟨by decide, by decide⟩
  have hl9 := lv_sub hl [0, 1, 2, 3, 4] (by rfl : lv_pick [(4, .int 0), (3, .int x1_), (2, .int (-1)), (0, .ref a0_), (1, .int x1_)] [0, 1, 2, 3, 4] = [(4, .int 0), (3, .int x1_), (2, .int (-1)), (0, .ref a0_), (1, .int x1_)])
  have g9 := g.sub (fx' := []) [] rfl
  exact loop_1 (19) 0 x1_ (-1) (bd_sub kb_0 (by decide)) (bd_sub bx1_ (by decide)) (by have h9_0 := bx1_; unfold bd at h9_0; have h9_1 := kb_0; unfold bd at h9_1; have h9_2 := kb_m1; unfold bd at h9_2; omega) _ _ _ _ g9  hl9
set_option maxHeartbeats 4000000 in
set_option maxRecDepth 100000 in
theorem r_X4_breakAt (l : Launch) (dC : Nat → ClassId) (dI : Nat → Nat → Nat) (L : List Nat) (kd : Nat → Nat) (tys : List (ClassId × FieldType)) (f0 : Nat → va_E) (sz : Nat) (hWT : WT L kd tys f0) (a0_ : Nat) (ma0_ : a0_ ∈ L) (ka0_ : kd a0_ = 4) (x1_ : Int32) (x2_ : Int32) (x3_ : Int32) : Met l yX4_breakAt (.code yX4_breakAt cX4_breakAt 4 none :: lw_g) ({ frames := 0, cells := 0, slots := 0, locals := 0 }) (va_Pc [.ref a0_, .int x1_, .int x2_, .int x3_] (P3 (dC, dI) L tys f0 sz)) (va_Qv (fun (f : Nat → va_E) => (Fs L kd f [(4, 4, a0_, .int x3_), (4, 3, a0_, .int x2_), (4, 0, a0_, .int x1_)])) (Q3 (dC, dI) L kd tys [(4, 0), (4, 3), (4, 4)] [] f0 sz) (pA L sz)) 0 0 (pA L sz) := by
  refine Met.ofW (cc := cX4_breakAt) (maxL := 4) (ret := none) (by decide) rfl ?_
  intro p e s m args below meth c s₁ B hml hv
  obtain ⟨rfl, hsz, hP, hK, hD0⟩ := hv
  have hx := B.exec
  have hb := B.bytes
  have hr := B.returns
  have hts := atoms_spec (ws := (.code yX4_breakAt cX4_breakAt 4 none :: lw_g)) B.pre
  have hown : s.vm.findClass RX4 = some m.cls := findClass_of_methodNamed B.named
  have hlocks := B.notSynchronized
  subst hsz
  have g : G3 (dC, dI) L kd tys s f0 [(4, 0), (4, 3), (4, 4)] [] f0 s.heap [] [] := G3.start hP hD0 hWT Fs.nil
  have hl := lv_entry ([.ref a0_, .int x1_, .int x2_, .int x3_]) (n := 4) (Nat.le_of_ble_eq_true rfl)
  rw [lg_entry_eq]
  generalize (lg_sl ([.ref a0_, .int x1_, .int x2_, .int x3_]) ++ List.replicate (4 - (lg_sl ([.ref a0_, .int x1_, .int x2_, .int x3_])).length) Slot.unset).toArray = ls at hl ⊢
  have hl : lv_has ls 4 [(0, .ref a0_), (1, .int x1_), (2, .int x2_), (3, .int x3_)] := hl
  refine W_q (fun Q hQ => ?_)
  refine lv_aload_n hx hb dX4_breakAt_0 rfl (lv_at hl 0 rfl) ?_
  refine lv_iload_n hx hb dX4_breakAt_1 rfl (lv_at hl 1 rfl) ?_
  refine g_put (C := RX4) (T := TX4) (N := 17) hx hb hts (mc_ inX4) tyX4 tyX4_ok nmX4 hown hK g ma0_ ka0_ (by decide) rfl 0 (by decide) (hts _ (List.mem_cons_of_mem _ t_836)) (fun _ h9 => h9) rfl rfl (okV_i (bdT x1_)) rfl rfl (by decide) (Or.inr (Or.inl (by decide))) (fx' := []) rfl dX4_breakAt_2 (fun f H locs hM_1 g => ?_)
  refine lv_aload_n hx hb dX4_breakAt_5 rfl (lv_at hl 0 rfl) ?_
  refine lv_iload_n hx hb dX4_breakAt_6 rfl (lv_at hl 2 rfl) ?_
  refine g_put (C := RX4) (T := TX4) (N := 17) hx hb hts (mc_ inX4) tyX4 tyX4_ok nmX4 hown hK g ma0_ ka0_ (by decide) rfl 3 (by decide) (hts _ (List.mem_cons_of_mem _ t_843)) (fun _ h9 => h9) rfl rfl (okV_i (bdT x2_)) rfl rfl (by decide) (Or.inr (Or.inl (by decide))) (fx' := [(4, 0, a0_, .int x1_)]) rfl dX4_breakAt_7 (fun f H locs hM_2 g => ?_)
  refine lv_aload_n hx hb dX4_breakAt_10 rfl (lv_at hl 0 rfl) ?_
  refine lv_iload_n hx hb dX4_breakAt_11 rfl (lv_at hl 3 rfl) ?_
  refine g_put (C := RX4) (T := TX4) (N := 17) hx hb hts (mc_ inX4) tyX4 tyX4_ok nmX4 hown hK g ma0_ ka0_ (by decide) rfl 4 (by decide) (hts _ (List.mem_cons_of_mem _ t_845)) (fun _ h9 => h9) rfl rfl (okV_i (bdT x3_)) rfl rfl (by decide) (Or.inr (Or.inl (by decide))) (fx' := [(4, 3, a0_, .int x2_), (4, 0, a0_, .int x1_)]) rfl dX4_breakAt_12 (fun f H locs hM_3 g => ?_)
  subst hQ
  exact W.vret hx hb hr (fun t ht hW => ⟨⟨_, rfl, (g.fcts [0, 1, 2] rfl), q3_of g hK ht hW⟩, g.2.2.1.F ht⟩) g.2.2.1.2.2 dX4_breakAt_15
set_option maxHeartbeats 4000000 in
set_option maxRecDepth 100000 in
theorem r_X7_memberNamed (l : Launch) (dC : Nat → ClassId) (dI : Nat → Nat → Nat) (L : List Nat) (kd : Nat → Nat) (tys : List (ClassId × FieldType)) (f0 : Nat → va_E) (sz : Nat) (hWT : WT L kd tys f0) (a0_ : Nat) (ma0_ : a0_ ∈ L) (ka0_ : kd a0_ = 7) (a1_ : Nat) (ma1_ : a1_ ∈ L) (ka1_ : kd a1_ = 9) (x2_ : Int64) : Met l yX7_memberNamed (.code yX7_memberNamed cX7_memberNamed 5 (some .int) :: lw_g) ({ frames := 0, cells := 0, slots := 0, locals := 0 }) (va_Pc [.ref a0_, .ref a1_, .long x2_] (P3 (dC, dI) L tys f0 sz)) (va_Qi (fun (r : Int32) (f : Nat → va_E) => (bd (-1) 11 r ∧ True)) (Q3 (dC, dI) L kd tys [] [] f0 sz) (pA L sz)) 0 0 (pA L sz) := by
  refine Met.ofW (cc := cX7_memberNamed) (maxL := 5) (ret := (some .int)) (by decide) rfl ?_
  intro p e s m args below meth c s₁ B hml hv
  obtain ⟨rfl, hsz, hP, hK, hD0⟩ := hv
  have hx := B.exec
  have hb := B.bytes
  have hr := B.returns
  have hts := atoms_spec (ws := (.code yX7_memberNamed cX7_memberNamed 5 (some .int) :: lw_g)) B.pre
  have hown : s.vm.findClass RX7 = some m.cls := findClass_of_methodNamed B.named
  have hlocks := B.notSynchronized
  subst hsz
  have g : G3 (dC, dI) L kd tys s f0 [] [] f0 s.heap [] [] := G3.start hP hD0 hWT Fs.nil
  have hl := lv_entry ([.ref a0_, .ref a1_, .long x2_]) (n := 5) (Nat.le_of_ble_eq_true rfl)
  rw [lg_entry_eq]
  generalize (lg_sl ([.ref a0_, .ref a1_, .long x2_]) ++ List.replicate (5 - (lg_sl ([.ref a0_, .ref a1_, .long x2_])).length) Slot.unset).toArray = ls at hl ⊢
  have hl : lv_has ls 5 [(0, .ref a0_), (1, .ref a1_), (2, .long x2_)] := hl
  refine W_q (fun Q hQ => ?_)
  refine lv_iconst (v := 0) hx hb dX7_memberNamed_0 (by decide) ?_
  refine lv_istore (lv' := [(4, .int 0), (0, .ref a0_), (1, .ref a1_), (2, .long x2_)]) hx hb dX7_memberNamed_1 hl (by decide) rfl (fun ls hl => ?_)
  have loop_1 : ∀ (n : Nat) (v3_4 : Int32), bd 0 12 v3_4 → (12 - v3_4.toInt < (n : Int)) → ∀ (f : Nat → va_E) (H : Heap) (locs : List Loc) (ls : Array Slot), G3 (dC, dI) L kd tys s f0 [] [] f H locs [] → lv_has ls 5 [(4, .int v3_4), (0, .ref a0_), (1, .ref a1_), (2, .long x2_)] → W p l e ({ frames := 0, cells := 0, slots := 0, locals := 0 } : Room) s m [.ref a0_, .ref a1_, .long x2_].toArray below meth c H locs 0 0 Q (F0 m 3 ls []) := by
    intro n3
    induction n3 with
    | zero =>
      intro v3_4 bv3_4 hm3 f H locs ls g  hl
      exact absurd hm3 (by have h9_v3_4 := bv3_4; unfold bd at h9_v3_4; omega)
    | succ n3 ih3 =>
      intro v3_4 bv3_4 hm3 f H locs ls g  hl
      refine lv_iload hx hb dX7_memberNamed_3 (lv_at hl 0 rfl) ?_
      refine lv_aload_n hx hb dX7_memberNamed_5 rfl (lv_at hl 2 rfl) ?_
      refine g_geti (C := RX9) (T := TX9) (N := 13) hx hb hts (mc_ inX9) hown hK g ma1_ ka1_ (by decide) rfl 8 (by decide) rfl (hts _ (List.mem_cons_of_mem _ t_498)) (fun _ h9 => h9) rfl dX7_memberNamed_6 (fun x_2 bx_2 g => ?_)
      refine lv_icmp_ge (tgt := 41) hx hb dX7_memberNamed_9 (by decide) (fun c_3 => ?_) (fun c_3 => ?_)
      · have fc_3 := le_f c_3
        refine lv_iconst (v := (-1)) hx hb dX7_memberNamed_41 (by decide) ?_
        have kb_m1 : bd (-1) (-1) ((-1) : Int32) := ⟨by decide, by decide⟩
        subst hQ
        exact W.iret (v := (-1)) hx hb hr (fun t ht hW => ⟨⟨_, _, rfl, ⟨(bd_sub kb_m1 (by decide)), trivial⟩, q3_of g hK ht hW⟩, g.2.2.1.F ht⟩) g.2.2.1.2.2 dX7_memberNamed_42
      · have fc_3 := nle_f c_3
        have b_4 : bd 0 11 v3_4 := ltL fc_3 bv3_4 bx_2 (by decide)
        have b_5 : bd 1 12 x_2 := ltR fc_3 bv3_4 bx_2 (by decide)
        refine lv_aload_n hx hb dX7_memberNamed_12 rfl (lv_at hl 1 rfl) ?_
        refine g_getr (K := 137) (C := RX7) (T := TX7) (N := 19) hx hb hts (mc_ inX7) hown hK g ma0_ ka0_ (by decide) rfl 2 (by decide) rfl (hts _ (List.mem_cons_of_mem _ t_629)) (fun _ h9 => h9) rfl dX7_memberNamed_13 (fun a_6 ma_6 ka_6 g => ?_)
        refine lv_aload_n hx hb dX7_memberNamed_16 rfl (lv_at hl 2 rfl) ?_
        refine g_getr (K := 156) (C := RX9) (T := TX9) (N := 13) hx hb hts (mc_ inX9) hown hK g ma1_ ka1_ (by decide) rfl 9 (by decide) rfl (hts _ (List.mem_cons_of_mem _ t_506)) (fun _ h9 => h9) rfl dX7_memberNamed_17 (fun a_7 ma_7 ka_7 g => ?_)
        refine lv_iload hx hb dX7_memberNamed_20 (lv_at hl 0 rfl) ?_
        refine g_iald hx hb hK g ma_7 ka_7 (by decide) rfl (in_bd b_4 (by decide)) dX7_memberNamed_22 (fun x_8 bx_8 cx_8 => ?_)
        refine g_aald hx hb hK g ma_6 ka_6 (by decide) rfl (by decide) (in_bd bx_8 (by decide)) dX7_memberNamed_23 (fun a_9 ma_9 ua_9 wa_9 => ?_)
        have ka_9 : kd a_9 = 6 := by omega
        refine g_getl (C := RX6) (T := TX6) (N := 13) hx hb hts (mc_ inX6) hown hK g ma_9 ka_9 (by decide) rfl 0 (by decide) rfl (hts _ (List.mem_cons_of_mem _ t_555)) (fun _ h9 => h9) rfl dX7_memberNamed_24 (fun x_10 g => ?_)
        refine lv_lload_n hx hb dX7_memberNamed_27 rfl (lv_at hl 3 rfl) ?_
        refine W.lcmp hx hb dX7_memberNamed_28 ?_
        refine lv_if_ne (tgt := 35) hx hb dX7_memberNamed_29 (by decide) (fun c_11 => ?_) (fun c_11 => ?_)
        · have kb_1 : bd 1 1 (1 : Int32) := ⟨by decide, by decide⟩
          obtain ⟨y_12, ey_12⟩ : ∃ z : Int32, z = v3_4 + 1 := ⟨_, rfl⟩
          refine lv_iinc (v := y_12) (lv' := [(4, .int y_12), (0, .ref a0_), (1, .ref a1_), (2, .long x2_)]) hx hb dX7_memberNamed_35 hl (k := 0) rfl (by rw [ey_12]; rfl) (by decide) rfl (fun ls hl => ?_)
          have ty_12 := add_bd ey_12 b_4 kb_1 (by decide)
          have b_13 : bd 1 12 y_12 := add_rg ty_12 b_4 kb_1 (by decide)
          refine lv_goto (tgt := 3) hx hb dX7_memberNamed_38 (by decide) ?_
          have hl9 := lv_sub hl [0, 1, 2, 3] (by rfl : lv_pick [(4, .int y_12), (0, .ref a0_), (1, .ref a1_), (2, .long x2_)] [0, 1, 2, 3] = [(4, .int y_12), (0, .ref a0_), (1, .ref a1_), (2, .long x2_)])
          have g9 := g.sub (fx' := []) [] rfl
          exact ih3  y_12 (bd_sub b_13 (by decide)) (by have h9_0 := b_13; unfold bd at h9_0; have h9_1 := bv3_4; unfold bd at h9_1; have h9_2 := kb_1; unfold bd at h9_2; omega) _ _ _ _ g9  hl9
        · refine lv_iload hx hb dX7_memberNamed_32 (lv_at hl 0 rfl) ?_
          subst hQ
          exact W.iret (v := v3_4) hx hb hr (fun t ht hW => ⟨⟨_, _, rfl, ⟨(bd_sub b_4 (by decide)), trivial⟩, q3_of g hK ht hW⟩, g.2.2.1.F ht⟩) g.2.2.1.2.2 dX7_memberNamed_34
  have kb_0 : bd 0 0 (0 : Int32) := ⟨by decide, by decide⟩
  have hl9 := lv_sub hl [0, 1, 2, 3] (by rfl : lv_pick [(4, .int 0), (0, .ref a0_), (1, .ref a1_), (2, .long x2_)] [0, 1, 2, 3] = [(4, .int 0), (0, .ref a0_), (1, .ref a1_), (2, .long x2_)])
  have g9 := g.sub (fx' := []) [] rfl
  exact loop_1 (27) 0 (bd_sub kb_0 (by decide)) (by have h9_0 := kb_0; unfold bd at h9_0; omega) _ _ _ _ g9  hl9
set_option maxHeartbeats 4000000 in
set_option maxRecDepth 100000 in
theorem r_X1_standOn_4 (l : Launch) (dC : Nat → ClassId) (dI : Nat → Nat → Nat) (L : List Nat) (kd : Nat → Nat) (tys : List (ClassId × FieldType)) (f0 : Nat → va_E) (sz : Nat) (hWT : WT L kd tys f0) (a0_ : Nat) (ma0_ : a0_ ∈ L) (ka0_ : kd a0_ = 1) (a1_ : Nat) (ma1_ : a1_ ∈ L) (ka1_ : kd a1_ = 7) (a2_ : Nat) (ma2_ : a2_ ∈ L) (ka2_ : kd a2_ = 9) (a3_ : Nat) (ma3_ : a3_ ∈ L) (ka3_ : kd a3_ = 101) (a4_ : Nat) (ma4_ : a4_ ∈ L) (ka4_ : kd a4_ = 101) (a5_ : Nat) (ma5_ : a5_ ∈ L) (ka5_ : kd a5_ = 103) : Met l yX1_standOn (.code yX1_standOn cX1_standOn 6 none :: lw_g) ({ frames := 0, cells := 0, slots := 0, locals := 0 }) (va_Pc [.ref a0_, .ref a1_, .ref a2_, .ref a3_, .ref a4_, .ref a5_] (P3 (dC, dI) L tys f0 sz)) (va_Qv (fun (f : Nat → va_E) => (Fs L kd f [(1, 4, a0_, .ref a5_), (1, 3, a0_, .ref a4_), (1, 2, a0_, .ref a3_), (1, 1, a0_, .ref a2_), (1, 0, a0_, .ref a1_)])) (Q3 (dC, dI) L kd tys [(1, 0), (1, 1), (1, 2), (1, 3), (1, 4)] [] f0 sz) (pA L sz)) 0 0 (pA L sz) := by
  refine Met.ofW (cc := cX1_standOn) (maxL := 6) (ret := none) (by decide) rfl ?_
  intro p e s m args below meth c s₁ B hml hv
  obtain ⟨rfl, hsz, hP, hK, hD0⟩ := hv
  have hx := B.exec
  have hb := B.bytes
  have hr := B.returns
  have hts := atoms_spec (ws := (.code yX1_standOn cX1_standOn 6 none :: lw_g)) B.pre
  have hown : s.vm.findClass RX1 = some m.cls := findClass_of_methodNamed B.named
  have hlocks := B.notSynchronized
  subst hsz
  have g : G3 (dC, dI) L kd tys s f0 [(1, 0), (1, 1), (1, 2), (1, 3), (1, 4)] [] f0 s.heap [] [] := G3.start hP hD0 hWT Fs.nil
  have hl := lv_entry ([.ref a0_, .ref a1_, .ref a2_, .ref a3_, .ref a4_, .ref a5_]) (n := 6) (Nat.le_of_ble_eq_true rfl)
  rw [lg_entry_eq]
  generalize (lg_sl ([.ref a0_, .ref a1_, .ref a2_, .ref a3_, .ref a4_, .ref a5_]) ++ List.replicate (6 - (lg_sl ([.ref a0_, .ref a1_, .ref a2_, .ref a3_, .ref a4_, .ref a5_])).length) Slot.unset).toArray = ls at hl ⊢
  have hl : lv_has ls 6 [(0, .ref a0_), (1, .ref a1_), (2, .ref a2_), (3, .ref a3_), (4, .ref a4_), (5, .ref a5_)] := hl
  refine W_q (fun Q hQ => ?_)
  refine lv_aload_n hx hb dX1_standOn_0 rfl (lv_at hl 0 rfl) ?_
  refine lv_aload_n hx hb dX1_standOn_1 rfl (lv_at hl 1 rfl) ?_
  refine g_put (C := RX1) (T := TX1) (N := 18) hx hb hts (mc_ inX1) tyX1 tyX1_ok nmX1 hown hK g ma0_ ka0_ (by decide) rfl 0 (by decide) (hts _ (List.mem_cons_of_mem _ t_735)) (fun _ h9 => h9) rfl rfl (okV_n ma1_ ka1_ (by decide)) rfl rfl (by decide) (Or.inr (Or.inl (by decide))) (fx' := []) rfl dX1_standOn_2 (fun f H locs hM_1 g => ?_)
  refine lv_aload_n hx hb dX1_standOn_5 rfl (lv_at hl 0 rfl) ?_
  refine lv_aload_n hx hb dX1_standOn_6 rfl (lv_at hl 2 rfl) ?_
  refine g_put (C := RX1) (T := TX1) (N := 18) hx hb hts (mc_ inX1) tyX1 tyX1_ok nmX1 hown hK g ma0_ ka0_ (by decide) rfl 1 (by decide) (hts _ (List.mem_cons_of_mem _ t_736)) (fun _ h9 => h9) rfl rfl (okV_n ma2_ ka2_ (by decide)) rfl rfl (by decide) (Or.inr (Or.inl (by decide))) (fx' := [(1, 0, a0_, .ref a1_)]) rfl dX1_standOn_7 (fun f H locs hM_2 g => ?_)
  refine lv_aload_n hx hb dX1_standOn_10 rfl (lv_at hl 0 rfl) ?_
  refine lv_aload_n hx hb dX1_standOn_11 rfl (lv_at hl 3 rfl) ?_
  refine g_put (C := RX1) (T := TX1) (N := 18) hx hb hts (mc_ inX1) tyX1 tyX1_ok nmX1 hown hK g ma0_ ka0_ (by decide) rfl 2 (by decide) (hts _ (List.mem_cons_of_mem _ t_737)) (fun _ h9 => h9) rfl rfl (okV_r ma3_ ka3_ (by decide)) rfl rfl (by decide) (Or.inr (Or.inl (by decide))) (fx' := [(1, 1, a0_, .ref a2_), (1, 0, a0_, .ref a1_)]) rfl dX1_standOn_12 (fun f H locs hM_3 g => ?_)
  refine lv_aload_n hx hb dX1_standOn_15 rfl (lv_at hl 0 rfl) ?_
  refine lv_aload hx hb dX1_standOn_16 (lv_at hl 4 rfl) ?_
  refine g_put (C := RX1) (T := TX1) (N := 18) hx hb hts (mc_ inX1) tyX1 tyX1_ok nmX1 hown hK g ma0_ ka0_ (by decide) rfl 3 (by decide) (hts _ (List.mem_cons_of_mem _ t_738)) (fun _ h9 => h9) rfl rfl (okV_r ma4_ ka4_ (by decide)) rfl rfl (by decide) (Or.inr (Or.inl (by decide))) (fx' := [(1, 2, a0_, .ref a3_), (1, 1, a0_, .ref a2_), (1, 0, a0_, .ref a1_)]) rfl dX1_standOn_18 (fun f H locs hM_4 g => ?_)
  refine lv_aload_n hx hb dX1_standOn_21 rfl (lv_at hl 0 rfl) ?_
  refine lv_aload hx hb dX1_standOn_22 (lv_at hl 5 rfl) ?_
  refine g_put (C := RX1) (T := TX1) (N := 18) hx hb hts (mc_ inX1) tyX1 tyX1_ok nmX1 hown hK g ma0_ ka0_ (by decide) rfl 4 (by decide) (hts _ (List.mem_cons_of_mem _ t_739)) (fun _ h9 => h9) rfl rfl (okV_r ma5_ ka5_ (by decide)) rfl rfl (by decide) (Or.inr (Or.inl (by decide))) (fx' := [(1, 3, a0_, .ref a4_), (1, 2, a0_, .ref a3_), (1, 1, a0_, .ref a2_), (1, 0, a0_, .ref a1_)]) rfl dX1_standOn_24 (fun f H locs hM_5 g => ?_)
  subst hQ
  exact W.vret hx hb hr (fun t ht hW => ⟨⟨_, rfl, (g.fcts [0, 1, 2, 3, 4] rfl), q3_of g hK ht hW⟩, g.2.2.1.F ht⟩) g.2.2.1.2.2 dX1_standOn_27
set_option maxHeartbeats 4000000 in
set_option maxRecDepth 100000 in
theorem r_X10_holds_13 (l : Launch) (dC : Nat → ClassId) (dI : Nat → Nat → Nat) (L : List Nat) (kd : Nat → Nat) (tys : List (ClassId × FieldType)) (f0 : Nat → va_E) (sz : Nat) (hWT : WT L kd tys f0) (a0_ : Nat) (ma0_ : a0_ ∈ L) (ka0_ : kd a0_ = 10) (a1_ : Nat) (ma1_ : a1_ ∈ L) (ka1_ : kd a1_ = 4) (x2_ : Int32) (bx2_ : bd 0 499 x2_) (x3_ : Int32) (bx3_ : bd 0 2 x3_) (q0_ : Nat) (mq0_ : q0_ ∈ L) (kq0_ : kd q0_ = 1) (q1_ : Nat) (mq1_ : q1_ ∈ L) (kq1_ : kd q1_ = 7) (q2_ : Nat) (mq2_ : q2_ ∈ L) (kq2_ : kd q2_ = 9) (y0_ : Int32) (by0_ : bd 1 8 y0_) (y1_ : Int32) (by1_ : bd 1 3 y1_) (y2_ : Int32) (by2_ : bd 0 9 y2_) (y3_ : Int32) (by3_ : bd (-1) 2147483647 y3_) (y4_ : Int32) (by4_ : bd (-1) 2147483647 y4_) (y5_ : Int32) (by5_ : bd (-1) 2147483647 y5_) (y6_ : Int32) (by6_ : bd (-1) 2147483647 y6_) (y7_ : Int32) (by7_ : bd 0 8 y7_) (hGcq1_ : cOK f0 q1_) (hfx : Fs L kd f0 [(10, 1, a0_, .ref q0_), (1, 0, q0_, .ref q1_), (1, 1, q0_, .ref q2_), (7, 1, q1_, .int y0_), (4, 6, a1_, .int y1_), (4, 14, a1_, .int y2_), (4, 4, a1_, .int y3_), (4, 3, a1_, .int y4_), (4, 2, a1_, .int y5_), (4, 1, a1_, .int y6_), (4, 0, a1_, .int y7_)]) : Met l yX10_holds (.code yX10_holds cX10_holds 4 (some .boolean) :: lw_g) ({ frames := 2, cells := 0, slots := 0, locals := 50 }) (va_Pc [.ref a0_, .ref a1_, .int x2_, .int x3_] (P3 (dC, dI) L tys f0 sz)) (va_Qi (fun (r : Int32) (f : Nat → va_E) => (r = 0 ∧ ∃ z0_ : Int32, bd (-1) 2147483647 z0_ ∧ ∃ z1_ : Int32, bd (-1) 2147483647 z1_ ∧ ∃ z2_ : Int32, bd 0 8 z2_ ∧ Fs L kd f [(4, 2, a1_, .int z0_), (4, 1, a1_, .int z1_), (4, 0, a1_, .int z2_), (1, 12, q0_, .int 0), (1, 5, q0_, .int 1)]) ∨ (r = 1 ∧ ∃ z0_ : Int32, bd 1 1 z0_ ∧ Fs L kd f [(1, 15, q0_, .int z0_), (1, 12, q0_, .int 0), (1, 5, q0_, .int 1), (4, 2, a1_, .int y5_), (4, 1, a1_, .int y6_), (4, 0, a1_, .int y7_)])) (Q3 (dC, dI) L kd tys [(1, 5), (1, 6), (1, 8), (1, 11), (1, 12), (1, 13), (1, 14), (1, 15), (1, 16), (1, 17), (4, 0), (4, 1), (4, 2), (4, 5)] [100, 116, 117, 146] f0 sz) (pA L sz)) 0 0 (pA L sz) := by
  refine Met.ofW (cc := cX10_holds) (maxL := 4) (ret := (some .boolean)) (by decide) rfl ?_
  intro p e s m args below meth c s₁ B hml hv
  obtain ⟨rfl, hsz, hP, hK, hD0⟩ := hv
  have hx := B.exec
  have hb := B.bytes
  have hr := B.returns
  have hts := atoms_spec (ws := (.code yX10_holds cX10_holds 4 (some .boolean) :: lw_g)) B.pre
  have hown : s.vm.findClass RX10 = some m.cls := findClass_of_methodNamed B.named
  have hlocks := B.notSynchronized
  subst hsz
  have g : G3 (dC, dI) L kd tys s f0 [(1, 5), (1, 6), (1, 8), (1, 11), (1, 12), (1, 13), (1, 14), (1, 15), (1, 16), (1, 17), (4, 0), (4, 1), (4, 2), (4, 5)] [100, 116, 117, 146] f0 s.heap [] [(10, 1, a0_, .ref q0_), (1, 0, q0_, .ref q1_), (1, 1, q0_, .ref q2_), (7, 1, q1_, .int y0_), (4, 6, a1_, .int y1_), (4, 14, a1_, .int y2_), (4, 4, a1_, .int y3_), (4, 3, a1_, .int y4_), (4, 2, a1_, .int y5_), (4, 1, a1_, .int y6_), (4, 0, a1_, .int y7_)] := G3.start hP hD0 hWT hfx
  have hl := lv_entry ([.ref a0_, .ref a1_, .int x2_, .int x3_]) (n := 4) (Nat.le_of_ble_eq_true rfl)
  rw [lg_entry_eq]
  generalize (lg_sl ([.ref a0_, .ref a1_, .int x2_, .int x3_]) ++ List.replicate (4 - (lg_sl ([.ref a0_, .ref a1_, .int x2_, .int x3_])).length) Slot.unset).toArray = ls at hl ⊢
  have hl : lv_has ls 4 [(0, .ref a0_), (1, .ref a1_), (2, .int x2_), (3, .int x3_)] := hl
  refine W_q (fun Q hQ => ?_)
  refine lv_aload_n hx hb dX10_holds_0 rfl (lv_at hl 0 rfl) ?_
  refine g_getk (C := RX10) (T := TX10) (N := 10) hx hb hts (mc_ inX10) hown hK g rfl 1 (by decide) rfl (hts _ (List.mem_cons_of_mem _ t_913)) (fun _ h9 => h9) 0 rfl dX10_holds_1 ?_
  refine lv_aload_n hx hb dX10_holds_4 rfl (lv_at hl 0 rfl) ?_
  refine g_getr (K := 7) (C := RX10) (T := TX10) (N := 10) hx hb hts (mc_ inX10) hown hK g ma0_ ka0_ (by decide) rfl 0 (by decide) rfl (hts _ (List.mem_cons_of_mem _ t_912)) (fun _ h9 => h9) rfl dX10_holds_5 (fun a_1 ma_1 ka_1 g => ?_)
  refine g_getr (K := 141) (C := RX7) (T := TX7) (N := 19) hx hb hts (mc_ inX7) hown hK g ma_1 ka_1 (by decide) rfl 8 (by decide) rfl (hts _ (List.mem_cons_of_mem _ t_652)) (fun _ h9 => h9) rfl dX10_holds_8 (fun a_2 ma_2 ka_2 g => ?_)
  refine lv_iload_n hx hb dX10_holds_11 rfl (lv_at hl 2 rfl) ?_
  refine g_iald hx hb hK g ma_2 ka_2 (by decide) rfl (in_bd bx2_ (by decide)) dX10_holds_12 (fun x_3 bx_3 cx_3 => ?_)
  refine lv_aload_n hx hb dX10_holds_13 rfl (lv_at hl 1 rfl) ?_
  refine g_geti (C := RX4) (T := TX4) (N := 17) hx hb hts (mc_ inX4) hown hK g ma1_ ka1_ (by decide) rfl 16 (by decide) rfl (hts _ (List.mem_cons_of_mem _ t_876)) (fun _ h9 => h9) rfl dX10_holds_14 (fun x_4 bx_4 g => ?_)
  have go_ := g
  refine g_callv (va_runV (As := [.int x_3, .int x_4]) (rest := []) ⟨hx, hb, hml, hown, hts⟩ (r_X1_readyToAsk l dC dI L kd tys f0 s.heap.size g.2.2.2.1 q0_ mq0_ kq0_ x_3 x_4) (cwV 2 hts (gV_ t_1551 t_1552 t_1553 t_195 t_1554) rfl rfl rfl (by decide +kernel) ⟨(Nat.le_of_ble_eq_true rfl), (Nat.le_of_ble_eq_true rfl)⟩) (pre3V g hK mq0_ kq0_ (by decide) (q := (RX1, TX1, 18)) rfl) rfl rfl hl.1 rfl (lv_room (Nat.le_of_ble_eq_true rfl)) dX10_holds_17 ⟨(Nat.le_of_ble_eq_true rfl), (Nat.le_of_ble_eq_true rfl)⟩) g hK (by decide) (by decide) (fx' := [(4, 16, a1_, .int x_4), (7, 8, a_1, .ref a_2), (10, 0, a0_, .ref a_1), (10, 1, a0_, .ref q0_), (1, 0, q0_, .ref q1_), (1, 1, q0_, .ref q2_), (7, 1, q1_, .int y0_), (4, 6, a1_, .int y1_), (4, 14, a1_, .int y2_), (4, 4, a1_, .int y3_), (4, 3, a1_, .int y4_), (4, 2, a1_, .int y5_), (4, 1, a1_, .int y6_), (4, 0, a1_, .int y7_)]) rfl (fun fr_5 H locs hp hMr_5 g => ?_)
  have hF_6 := hp
  have hG_7 := cOK.frame hMr_5 go_.2.2.2.1 mq1_ kq1_ (by decide) (by decide) hGcq1_
  have g := g.more hF_6
  refine lv_aload_n hx hb dX10_holds_20 rfl (lv_at hl 0 rfl) ?_
  refine g_getk (C := RX10) (T := TX10) (N := 10) hx hb hts (mc_ inX10) hown hK g rfl 1 (by decide) rfl (hts _ (List.mem_cons_of_mem _ t_913)) (fun _ h9 => h9) 7 rfl dX10_holds_21 ?_
  have kb_0 : bd 0 0 (0 : Int32) := ⟨by decide, by decide⟩
  have kb_1 : bd 1 1 (1 : Int32) := ⟨by decide, by decide⟩
  have go_ := g
  refine g_callv (va_runV (As := []) (rest := []) ⟨hx, hb, hml, hown, hts⟩ (r_X1_go_2 l dC dI L kd tys fr_5 H.size g.2.2.2.1 q0_ mq0_ kq0_ q1_ mq1_ kq1_ q2_ mq2_ kq2_ 0 kb_0 1 kb_1 y0_ by0_ hG_7 (g.fcts [8, 9, 1, 3, 10] rfl)) (cwV 0 hts (gV_ t_1555 t_1556 t_1557 t_195 t_1558) rfl rfl rfl (by decide +kernel) ⟨(Nat.le_of_ble_eq_true rfl), (Nat.le_of_ble_eq_true rfl)⟩) (pre3V g hK mq0_ kq0_ (by decide) (q := (RX1, TX1, 18)) rfl) rfl rfl hl.1 rfl (lv_room (Nat.le_of_ble_eq_true rfl)) dX10_holds_24 ⟨(Nat.le_of_ble_eq_true rfl), (Nat.le_of_ble_eq_true rfl)⟩) g hK (by decide) (by decide) (fx' := [(1, 12, q0_, .int 0), (1, 6, q0_, .int x_4), (1, 5, q0_, .int 1), (4, 16, a1_, .int x_4), (7, 8, a_1, .ref a_2), (10, 0, a0_, .ref a_1), (10, 1, a0_, .ref q0_), (1, 0, q0_, .ref q1_), (1, 1, q0_, .ref q2_), (7, 1, q1_, .int y0_), (4, 6, a1_, .int y1_), (4, 14, a1_, .int y2_), (4, 4, a1_, .int y3_), (4, 3, a1_, .int y4_), (4, 2, a1_, .int y5_), (4, 1, a1_, .int y6_), (4, 0, a1_, .int y7_)]) rfl (fun fr_8 H locs hp hMr_8 g => ?_)
  have hG_9 := cOK.frame hMr_8 go_.2.2.2.1 mq1_ kq1_ (by decide) (by decide) hG_7
  refine lv_aload_n hx hb dX10_holds_27 rfl (lv_at hl 0 rfl) ?_
  refine g_getk (C := RX10) (T := TX10) (N := 10) hx hb hts (mc_ inX10) hown hK g rfl 1 (by decide) rfl (hts _ (List.mem_cons_of_mem _ t_913)) (fun _ h9 => h9) 6 rfl dX10_holds_28 ?_
  refine g_geti (C := RX1) (T := TX1) (N := 18) hx hb hts (mc_ inX1) hown hK g mq0_ kq0_ (by decide) rfl 15 (by decide) rfl (hts _ (List.mem_cons_of_mem _ t_751)) (fun _ h9 => h9) rfl dX10_holds_31 (fun x_10 bx_10 g => ?_)
  refine lv_iconst (v := 1) hx hb dX10_holds_34 (by decide) ?_
  refine lv_icmp_ne (tgt := 54) hx hb dX10_holds_35 (by decide) (fun c_11 => ?_) (fun c_11 => ?_)
  · have fc_11 := neq_f c_11
    refine lv_aload_n hx hb dX10_holds_54 rfl (lv_at hl 0 rfl) ?_
    refine g_getk (C := RX10) (T := TX10) (N := 10) hx hb hts (mc_ inX10) hown hK g rfl 1 (by decide) rfl (hts _ (List.mem_cons_of_mem _ t_913)) (fun _ h9 => h9) 7 rfl dX10_holds_55 ?_
    refine g_getk (C := RX1) (T := TX1) (N := 18) hx hb hts (mc_ inX1) hown hK g rfl 15 (by decide) rfl (hts _ (List.mem_cons_of_mem _ t_751)) (fun _ h9 => h9) 0 rfl dX10_holds_58 ?_
    refine lv_iconst (v := 2) hx hb dX10_holds_61 (by decide) ?_
    have kb_2 : bd 2 2 (2 : Int32) := ⟨by decide, by decide⟩
    refine lv_icmp_ne (tgt := 76) hx hb dX10_holds_62 (by decide) (fun c_12 => ?_) (fun c_12 => ?_)
    · have fc_12 := neq_f c_12
      refine lv_aload_n hx hb dX10_holds_76 rfl (lv_at hl 1 rfl) ?_
      refine lv_aload_n hx hb dX10_holds_77 rfl (lv_at hl 0 rfl) ?_
      refine g_getk (C := RX10) (T := TX10) (N := 10) hx hb hts (mc_ inX10) hown hK g rfl 1 (by decide) rfl (hts _ (List.mem_cons_of_mem _ t_913)) (fun _ h9 => h9) 7 rfl dX10_holds_78 ?_
      refine g_getk (C := RX1) (T := TX1) (N := 18) hx hb hts (mc_ inX1) hown hK g rfl 15 (by decide) rfl (hts _ (List.mem_cons_of_mem _ t_751)) (fun _ h9 => h9) 0 rfl dX10_holds_81 ?_
      refine lv_iconst (v := 4) hx hb dX10_holds_84 (by decide) ?_
      have kb_4 : bd 4 4 (4 : Int32) := ⟨by decide, by decide⟩
      refine lv_icmp_ne (tgt := 92) hx hb dX10_holds_85 (by decide) (fun c_13 => ?_) (fun c_13 => ?_)
      · have fc_13 := neq_f c_13
        refine lv_bipush (v := 7) hx hb dX10_holds_92 (by decide) ?_
        refine lv_iload_n hx hb dX10_holds_94 rfl (lv_at hl 2 rfl) ?_
        refine lv_iload_n hx hb dX10_holds_95 rfl (lv_at hl 3 rfl) ?_
        have go_ := g
        refine g_callv (va_runV (As := [.int 7, .int x2_, .int x3_]) (rest := []) ⟨hx, hb, hml, hown, hts⟩ (r_X4_breakBy l dC dI L kd tys fr_8 H.size g.2.2.2.1 a1_ ma1_ ka1_ 7 x2_ x3_) (cwV 3 hts (gV_ t_1606 t_1607 t_1608 t_197 t_1609) rfl rfl rfl (by decide +kernel) ⟨(Nat.le_of_ble_eq_true rfl), (Nat.le_of_ble_eq_true rfl)⟩) (pre3V g hK ma1_ ka1_ (by decide) (q := (RX4, TX4, 17)) rfl) rfl rfl hl.1 rfl (lv_room (Nat.le_of_ble_eq_true rfl)) dX10_holds_96 ⟨(Nat.le_of_ble_eq_true rfl), (Nat.le_of_ble_eq_true rfl)⟩) g hK (by decide) (by decide) (fx' := [(1, 15, q0_, .int x_10), (1, 12, q0_, .int 0), (1, 6, q0_, .int x_4), (1, 5, q0_, .int 1), (4, 16, a1_, .int x_4), (7, 8, a_1, .ref a_2), (10, 0, a0_, .ref a_1), (10, 1, a0_, .ref q0_), (1, 0, q0_, .ref q1_), (1, 1, q0_, .ref q2_), (7, 1, q1_, .int y0_), (4, 6, a1_, .int y1_), (4, 14, a1_, .int y2_), (4, 4, a1_, .int y3_), (4, 3, a1_, .int y4_)]) rfl (fun fr_14 H locs hp hMr_14 g => ?_)
        have hF_15 := hp
        have hG_16 := cOK.frame hMr_14 go_.2.2.2.1 mq1_ kq1_ (by decide) (by decide) hG_9
        have g := g.more hF_15
        refine lv_iconst (v := 0) hx hb dX10_holds_99 (by decide) ?_
        have kb_7 : bd 7 7 (7 : Int32) := ⟨by decide, by decide⟩
        subst hQ
        exact W.zret (v := 0) hx hb hr (nar_z (bd_sub kb_0 (by decide) : bd 0 1 _).1 (bd_sub kb_0 (by decide) : bd 0 1 _).2) (fun t ht hW => ⟨⟨_, _, rfl, Or.inl ⟨rfl, x3_, (bd_sub bx3_ (by decide)), x2_, (bd_sub bx2_ (by decide)), 7, (bd_sub kb_7 (by decide)), (g.fcts [0, 1, 2, 4, 6] rfl)⟩, q3_of g hK ht hW⟩, g.2.2.1.F ht⟩) g.2.2.1.2.2 dX10_holds_100
      · have fc_13 := eq_f c_13
        have b_17 : bd 4 4 x_10 := eqX fc_13 (bdT x_10) kb_4 (by decide)
        refine lv_iconst (v := 5) hx hb dX10_holds_88 (by decide) ?_
        refine lv_goto (tgt := 94) hx hb dX10_holds_89 (by decide) ?_
        refine lv_iload_n hx hb dX10_holds_94 rfl (lv_at hl 2 rfl) ?_
        refine lv_iload_n hx hb dX10_holds_95 rfl (lv_at hl 3 rfl) ?_
        have go_ := g
        refine g_callv (va_runV (As := [.int 5, .int x2_, .int x3_]) (rest := []) ⟨hx, hb, hml, hown, hts⟩ (r_X4_breakBy l dC dI L kd tys fr_8 H.size g.2.2.2.1 a1_ ma1_ ka1_ 5 x2_ x3_) (cwV 3 hts (gV_ t_1606 t_1607 t_1608 t_197 t_1609) rfl rfl rfl (by decide +kernel) ⟨(Nat.le_of_ble_eq_true rfl), (Nat.le_of_ble_eq_true rfl)⟩) (pre3V g hK ma1_ ka1_ (by decide) (q := (RX4, TX4, 17)) rfl) rfl rfl hl.1 rfl (lv_room (Nat.le_of_ble_eq_true rfl)) dX10_holds_96 ⟨(Nat.le_of_ble_eq_true rfl), (Nat.le_of_ble_eq_true rfl)⟩) g hK (by decide) (by decide) (fx' := [(1, 15, q0_, .int x_10), (1, 12, q0_, .int 0), (1, 6, q0_, .int x_4), (1, 5, q0_, .int 1), (4, 16, a1_, .int x_4), (7, 8, a_1, .ref a_2), (10, 0, a0_, .ref a_1), (10, 1, a0_, .ref q0_), (1, 0, q0_, .ref q1_), (1, 1, q0_, .ref q2_), (7, 1, q1_, .int y0_), (4, 6, a1_, .int y1_), (4, 14, a1_, .int y2_), (4, 4, a1_, .int y3_), (4, 3, a1_, .int y4_)]) rfl (fun fr_18 H locs hp hMr_18 g => ?_)
        have hF_19 := hp
        have hG_20 := cOK.frame hMr_18 go_.2.2.2.1 mq1_ kq1_ (by decide) (by decide) hG_9
        have g := g.more hF_19
        refine lv_iconst (v := 0) hx hb dX10_holds_99 (by decide) ?_
        have kb_5 : bd 5 5 (5 : Int32) := ⟨by decide, by decide⟩
        subst hQ
        exact W.zret (v := 0) hx hb hr (nar_z (bd_sub kb_0 (by decide) : bd 0 1 _).1 (bd_sub kb_0 (by decide) : bd 0 1 _).2) (fun t ht hW => ⟨⟨_, _, rfl, Or.inl ⟨rfl, x3_, (bd_sub bx3_ (by decide)), x2_, (bd_sub bx2_ (by decide)), 5, (bd_sub kb_5 (by decide)), (g.fcts [0, 1, 2, 4, 6] rfl)⟩, q3_of g hK ht hW⟩, g.2.2.1.F ht⟩) g.2.2.1.2.2 dX10_holds_100
    · have fc_12 := eq_f c_12
      have b_21 : bd 2 2 x_10 := eqX fc_12 (bdT x_10) kb_2 (by decide)
      refine lv_aload_n hx hb dX10_holds_65 rfl (lv_at hl 1 rfl) ?_
      refine lv_aload_n hx hb dX10_holds_66 rfl (lv_at hl 0 rfl) ?_
      refine g_getk (C := RX10) (T := TX10) (N := 10) hx hb hts (mc_ inX10) hown hK g rfl 1 (by decide) rfl (hts _ (List.mem_cons_of_mem _ t_913)) (fun _ h9 => h9) 7 rfl dX10_holds_67 ?_
      refine g_getl (C := RX1) (T := TX1) (N := 18) hx hb hts (mc_ inX1) hown hK g mq0_ kq0_ (by decide) rfl 17 (by decide) rfl (hts _ (List.mem_cons_of_mem _ t_755)) (fun _ h9 => h9) rfl dX10_holds_70 (fun x_22 g => ?_)
      have go_ := g
      refine g_put (C := RX4) (T := TX4) (N := 17) hx hb hts (mc_ inX4) tyX4 tyX4_ok nmX4 hown hK g ma1_ ka1_ (by decide) rfl 5 (by decide) (hts _ (List.mem_cons_of_mem _ t_848)) (fun _ h9 => h9) rfl rfl okV_l rfl rfl (by decide) (Or.inr (Or.inl (by decide))) (fx' := [(1, 17, q0_, .long x_22), (1, 15, q0_, .int x_10), (1, 12, q0_, .int 0), (1, 6, q0_, .int x_4), (1, 5, q0_, .int 1), (4, 16, a1_, .int x_4), (7, 8, a_1, .ref a_2), (10, 0, a0_, .ref a_1), (10, 1, a0_, .ref q0_), (1, 0, q0_, .ref q1_), (1, 1, q0_, .ref q2_), (7, 1, q1_, .int y0_), (4, 6, a1_, .int y1_), (4, 14, a1_, .int y2_), (4, 4, a1_, .int y3_), (4, 3, a1_, .int y4_), (4, 2, a1_, .int y5_), (4, 1, a1_, .int y6_), (4, 0, a1_, .int y7_)]) rfl dX10_holds_73 (fun f H locs hM_23 g => ?_)
      have hG_24 := cOK.frame hM_23 go_.2.2.2.1 mq1_ kq1_ (by decide) (by decide) hG_9
      refine lv_aload_n hx hb dX10_holds_76 rfl (lv_at hl 1 rfl) ?_
      refine lv_aload_n hx hb dX10_holds_77 rfl (lv_at hl 0 rfl) ?_
      refine g_getk (C := RX10) (T := TX10) (N := 10) hx hb hts (mc_ inX10) hown hK g rfl 1 (by decide) rfl (hts _ (List.mem_cons_of_mem _ t_913)) (fun _ h9 => h9) 9 rfl dX10_holds_78 ?_
      refine g_getk (C := RX1) (T := TX1) (N := 18) hx hb hts (mc_ inX1) hown hK g rfl 15 (by decide) rfl (hts _ (List.mem_cons_of_mem _ t_751)) (fun _ h9 => h9) 2 rfl dX10_holds_81 ?_
      refine lv_iconst (v := 4) hx hb dX10_holds_84 (by decide) ?_
      have kb_4 : bd 4 4 (4 : Int32) := ⟨by decide, by decide⟩
      refine lv_icmp_ne (tgt := 92) hx hb dX10_holds_85 (by decide) (fun c_25 => ?_) (fun c_25 => ?_)
      · have fc_25 := neq_f c_25
        refine lv_bipush (v := 7) hx hb dX10_holds_92 (by decide) ?_
        refine lv_iload_n hx hb dX10_holds_94 rfl (lv_at hl 2 rfl) ?_
        refine lv_iload_n hx hb dX10_holds_95 rfl (lv_at hl 3 rfl) ?_
        have go_ := g
        refine g_callv (va_runV (As := [.int 7, .int x2_, .int x3_]) (rest := []) ⟨hx, hb, hml, hown, hts⟩ (r_X4_breakBy l dC dI L kd tys f H.size g.2.2.2.1 a1_ ma1_ ka1_ 7 x2_ x3_) (cwV 3 hts (gV_ t_1606 t_1607 t_1608 t_197 t_1609) rfl rfl rfl (by decide +kernel) ⟨(Nat.le_of_ble_eq_true rfl), (Nat.le_of_ble_eq_true rfl)⟩) (pre3V g hK ma1_ ka1_ (by decide) (q := (RX4, TX4, 17)) rfl) rfl rfl hl.1 rfl (lv_room (Nat.le_of_ble_eq_true rfl)) dX10_holds_96 ⟨(Nat.le_of_ble_eq_true rfl), (Nat.le_of_ble_eq_true rfl)⟩) g hK (by decide) (by decide) (fx' := [(4, 5, a1_, .long x_22), (1, 17, q0_, .long x_22), (1, 15, q0_, .int x_10), (1, 12, q0_, .int 0), (1, 6, q0_, .int x_4), (1, 5, q0_, .int 1), (4, 16, a1_, .int x_4), (7, 8, a_1, .ref a_2), (10, 0, a0_, .ref a_1), (10, 1, a0_, .ref q0_), (1, 0, q0_, .ref q1_), (1, 1, q0_, .ref q2_), (7, 1, q1_, .int y0_), (4, 6, a1_, .int y1_), (4, 14, a1_, .int y2_), (4, 4, a1_, .int y3_), (4, 3, a1_, .int y4_)]) rfl (fun fr_26 H locs hp hMr_26 g => ?_)
        have hF_27 := hp
        have hG_28 := cOK.frame hMr_26 go_.2.2.2.1 mq1_ kq1_ (by decide) (by decide) hG_24
        have g := g.more hF_27
        refine lv_iconst (v := 0) hx hb dX10_holds_99 (by decide) ?_
        have kb_7 : bd 7 7 (7 : Int32) := ⟨by decide, by decide⟩
        subst hQ
        exact W.zret (v := 0) hx hb hr (nar_z (bd_sub kb_0 (by decide) : bd 0 1 _).1 (bd_sub kb_0 (by decide) : bd 0 1 _).2) (fun t ht hW => ⟨⟨_, _, rfl, Or.inl ⟨rfl, x3_, (bd_sub bx3_ (by decide)), x2_, (bd_sub bx2_ (by decide)), 7, (bd_sub kb_7 (by decide)), (g.fcts [0, 1, 2, 6, 8] rfl)⟩, q3_of g hK ht hW⟩, g.2.2.1.F ht⟩) g.2.2.1.2.2 dX10_holds_100
      · have fc_25 := eq_f c_25
        have b_29 : bd 4 2 x_10 := eqX fc_25 b_21 kb_4 (by decide)
        exact bd_no b_29 (by decide)
  · have fc_11 := eq_f c_11
    have b_30 : bd 1 1 x_10 := eqX fc_11 (bdT x_10) kb_1 (by decide)
    refine lv_aload_n hx hb dX10_holds_38 rfl (lv_at hl 0 rfl) ?_
    refine g_getk (C := RX10) (T := TX10) (N := 10) hx hb hts (mc_ inX10) hown hK g rfl 1 (by decide) rfl (hts _ (List.mem_cons_of_mem _ t_913)) (fun _ h9 => h9) 7 rfl dX10_holds_39 ?_
    refine g_geti (C := RX1) (T := TX1) (N := 18) hx hb hts (mc_ inX1) hown hK g mq0_ kq0_ (by decide) rfl 16 (by decide) rfl (hts _ (List.mem_cons_of_mem _ t_753)) (fun _ h9 => h9) rfl dX10_holds_42 (fun x_31 bx_31 g => ?_)
    refine lv_if_eq (tgt := 52) hx hb dX10_holds_45 (by decide) (fun c_32 => ?_) (fun c_32 => ?_)
    · have fc_32 := eq_f c_32
      have b_33 : bd 0 0 x_31 := eqX fc_32 (bdT x_31) kb_0 (by decide)
      refine lv_iconst (v := 0) hx hb dX10_holds_52 (by decide) ?_
      subst hQ
      exact W.zret (v := 0) hx hb hr (nar_z (bd_sub kb_0 (by decide) : bd 0 1 _).1 (bd_sub kb_0 (by decide) : bd 0 1 _).2) (fun t ht hW => ⟨⟨_, _, rfl, Or.inl ⟨rfl, y5_, by5_, y6_, by6_, y7_, by7_, (g.fcts [16, 17, 18, 2, 4] rfl)⟩, q3_of g hK ht hW⟩, g.2.2.1.F ht⟩) g.2.2.1.2.2 dX10_holds_53
    · have fc_32 := neq_f c_32
      refine lv_iconst (v := 1) hx hb dX10_holds_48 (by decide) ?_
      refine lv_goto (tgt := 53) hx hb dX10_holds_49 (by decide) ?_
      subst hQ
      exact W.zret (v := 1) hx hb hr (nar_z (bd_sub kb_1 (by decide) : bd 0 1 _).1 (bd_sub kb_1 (by decide) : bd 0 1 _).2) (fun t ht hW => ⟨⟨_, _, rfl, Or.inr (⟨rfl, x_10, b_30, (g.fcts [1, 2, 4, 16, 17, 18] rfl)⟩), q3_of g hK ht hW⟩, g.2.2.1.F ht⟩) g.2.2.1.2.2 dX10_holds_53
set_option maxHeartbeats 4000000 in
set_option maxRecDepth 100000 in
theorem r_X10_askNeeds_2 (l : Launch) (dC : Nat → ClassId) (dI : Nat → Nat → Nat) (L : List Nat) (kd : Nat → Nat) (tys : List (ClassId × FieldType)) (f0 : Nat → va_E) (sz : Nat) (hWT : WT L kd tys f0) (a0_ : Nat) (ma0_ : a0_ ∈ L) (ka0_ : kd a0_ = 10) (a1_ : Nat) (ma1_ : a1_ ∈ L) (ka1_ : kd a1_ = 4) (x2_ : Int32) (bx2_ : bd 0 2 x2_) (x3_ : Int32) (bx3_ : bd 0 95 x3_) (q0_ : Nat) (mq0_ : q0_ ∈ L) (kq0_ : kd q0_ = 1) (q1_ : Nat) (mq1_ : q1_ ∈ L) (kq1_ : kd q1_ = 7) (q2_ : Nat) (mq2_ : q2_ ∈ L) (kq2_ : kd q2_ = 9) (y0_ : Int32) (by0_ : bd 1 8 y0_) (y1_ : Int32) (by1_ : bd 1 3 y1_) (y2_ : Int32) (by2_ : bd 0 9 y2_) (y3_ : Int32) (by3_ : bd (-1) 2147483647 y3_) (y4_ : Int32) (by4_ : bd (-1) 2147483647 y4_) (y5_ : Int32) (by5_ : bd (-1) 2147483647 y5_) (y6_ : Int32) (by6_ : bd (-1) 2147483647 y6_) (y7_ : Int32) (by7_ : bd 0 0 y7_) (hGcq1_ : cOK f0 q1_) (hfx : Fs L kd f0 [(10, 1, a0_, .ref q0_), (1, 0, q0_, .ref q1_), (1, 1, q0_, .ref q2_), (7, 1, q1_, .int y0_), (4, 6, a1_, .int y1_), (4, 14, a1_, .int y2_), (4, 4, a1_, .int y3_), (4, 3, a1_, .int y4_), (4, 2, a1_, .int y5_), (4, 1, a1_, .int y6_), (4, 0, a1_, .int y7_)]) : Met l yX10_askNeeds (.code yX10_askNeeds cX10_askNeeds 9 none :: lw_g) ({ frames := 3, cells := 0, slots := 0, locals := 73 }) (va_Pc [.ref a0_, .ref a1_, .int x2_, .int x3_] (P3 (dC, dI) L tys f0 sz)) (va_Qv (fun (f : Nat → va_E) => (∃ z0_ : Int32, bd (-1) 8 z0_ ∧ ∃ z1_ : Int32, bd (-1) 2147483647 z1_ ∧ ∃ z2_ : Int32, bd (-1) 2147483647 z2_ ∧ Fs L kd f [(4, 0, a1_, .int z0_), (4, 2, a1_, .int z1_), (4, 1, a1_, .int z2_)])) (Q3 (dC, dI) L kd tys [(1, 5), (1, 6), (1, 8), (1, 11), (1, 12), (1, 13), (1, 14), (1, 15), (1, 16), (1, 17), (4, 0), (4, 1), (4, 2), (4, 5)] [100, 116, 117, 146] f0 sz) (pA L sz)) 0 0 (pA L sz) := by
  refine Met.ofW (cc := cX10_askNeeds) (maxL := 9) (ret := none) (by decide) rfl ?_
  intro p e s m args below meth c s₁ B hml hv
  obtain ⟨rfl, hsz, hP, hK, hD0⟩ := hv
  have hx := B.exec
  have hb := B.bytes
  have hr := B.returns
  have hts := atoms_spec (ws := (.code yX10_askNeeds cX10_askNeeds 9 none :: lw_g)) B.pre
  have hown : s.vm.findClass RX10 = some m.cls := findClass_of_methodNamed B.named
  have hlocks := B.notSynchronized
  subst hsz
  have g : G3 (dC, dI) L kd tys s f0 [(1, 5), (1, 6), (1, 8), (1, 11), (1, 12), (1, 13), (1, 14), (1, 15), (1, 16), (1, 17), (4, 0), (4, 1), (4, 2), (4, 5)] [100, 116, 117, 146] f0 s.heap [] [(10, 1, a0_, .ref q0_), (1, 0, q0_, .ref q1_), (1, 1, q0_, .ref q2_), (7, 1, q1_, .int y0_), (4, 6, a1_, .int y1_), (4, 14, a1_, .int y2_), (4, 4, a1_, .int y3_), (4, 3, a1_, .int y4_), (4, 2, a1_, .int y5_), (4, 1, a1_, .int y6_), (4, 0, a1_, .int y7_)] := G3.start hP hD0 hWT hfx
  have hl := lv_entry ([.ref a0_, .ref a1_, .int x2_, .int x3_]) (n := 9) (Nat.le_of_ble_eq_true rfl)
  rw [lg_entry_eq]
  generalize (lg_sl ([.ref a0_, .ref a1_, .int x2_, .int x3_]) ++ List.replicate (9 - (lg_sl ([.ref a0_, .ref a1_, .int x2_, .int x3_])).length) Slot.unset).toArray = ls at hl ⊢
  have hl : lv_has ls 9 [(0, .ref a0_), (1, .ref a1_), (2, .int x2_), (3, .int x3_)] := hl
  refine W_q (fun Q hQ => ?_)
  refine lv_iload_n hx hb dX10_askNeeds_0 rfl (lv_at hl 3 rfl) ?_
  refine lv_istore (lv' := [(4, .int x3_), (0, .ref a0_), (1, .ref a1_), (2, .int x2_), (3, .int x3_)]) hx hb dX10_askNeeds_1 hl (by decide) rfl (fun ls hl => ?_)
  refine lv_iconst (v := 0) hx hb dX10_askNeeds_3 (by decide) ?_
  refine lv_istore (lv' := [(5, .int 0), (4, .int x3_), (0, .ref a0_), (1, .ref a1_), (2, .int x2_), (3, .int x3_)]) hx hb dX10_askNeeds_4 hl (by decide) rfl (fun ls hl => ?_)
  have loop_1 : ∀ (n : Nat) (v6_5 : Int32) (v6_4 : Int32) (w6_4_2_a1_ : Int32) (w6_4_1_a1_ : Int32) (w6_4_0_a1_ : Int32), bd 0 8 v6_5 → bd (-1) 95 v6_4 → bd (-1) 2147483647 w6_4_2_a1_ → bd (-1) 2147483647 w6_4_1_a1_ → bd 0 0 w6_4_0_a1_ → (8 - v6_5.toInt < (n : Int)) → ∀ (f : Nat → va_E) (H : Heap) (locs : List Loc) (ls : Array Slot), G3 (dC, dI) L kd tys s f0 [(1, 5), (1, 6), (1, 8), (1, 11), (1, 12), (1, 13), (1, 14), (1, 15), (1, 16), (1, 17), (4, 0), (4, 1), (4, 2), (4, 5)] [100, 116, 117, 146] f H locs [(10, 1, a0_, .ref q0_), (1, 0, q0_, .ref q1_), (1, 1, q0_, .ref q2_), (7, 1, q1_, .int y0_), (4, 6, a1_, .int y1_), (4, 14, a1_, .int y2_), (4, 4, a1_, .int y3_), (4, 3, a1_, .int y4_), (4, 2, a1_, .int w6_4_2_a1_), (4, 1, a1_, .int w6_4_1_a1_), (4, 0, a1_, .int w6_4_0_a1_)] → cOK f q1_ → lv_has ls 9 [(5, .int v6_5), (4, .int v6_4), (0, .ref a0_), (1, .ref a1_), (2, .int x2_), (3, .int x3_)] → W p l e ({ frames := 3, cells := 0, slots := 0, locals := 73 } : Room) s m [.ref a0_, .ref a1_, .int x2_, .int x3_].toArray below meth c H locs 0 0 Q (F0 m 6 ls []) := by
    intro n6
    induction n6 with
    | zero =>
      intro v6_5 v6_4 w6_4_2_a1_ w6_4_1_a1_ w6_4_0_a1_ bv6_5 bv6_4 bw6_4_2_a1_ bw6_4_1_a1_ bw6_4_0_a1_ hm6 f H locs ls g hG6_c_q1_ hl
      exact absurd hm6 (by have h9_v6_5 := bv6_5; unfold bd at h9_v6_5; have h9_v6_4 := bv6_4; unfold bd at h9_v6_4; have h9_w6_4_2_a1_ := bw6_4_2_a1_; unfold bd at h9_w6_4_2_a1_; have h9_w6_4_1_a1_ := bw6_4_1_a1_; unfold bd at h9_w6_4_1_a1_; have h9_w6_4_0_a1_ := bw6_4_0_a1_; unfold bd at h9_w6_4_0_a1_; omega)
    | succ n6 ih6 =>
      intro v6_5 v6_4 w6_4_2_a1_ w6_4_1_a1_ w6_4_0_a1_ bv6_5 bv6_4 bw6_4_2_a1_ bw6_4_1_a1_ bw6_4_0_a1_ hm6 f H locs ls g hG6_c_q1_ hl
      refine lv_iload hx hb dX10_askNeeds_6 (lv_at hl 0 rfl) ?_
      refine lv_bipush (v := 8) hx hb dX10_askNeeds_8 (by decide) ?_
      have kb_8 : bd 8 8 (8 : Int32) := ⟨by decide, by decide⟩
      refine lv_icmp_ge (tgt := 122) hx hb dX10_askNeeds_10 (by decide) (fun c_2 => ?_) (fun c_2 => ?_)
      · have fc_2 := le_f c_2
        have b_3 : bd 8 8 v6_5 := leR fc_2 kb_8 bv6_5 (by decide)
        refine lv_aload_n hx hb dX10_askNeeds_122 rfl (lv_at hl 3 rfl) ?_
        refine lv_iconst (v := (-1)) hx hb dX10_askNeeds_123 (by decide) ?_
        have kb_m1 : bd (-1) (-1) ((-1) : Int32) := ⟨by decide, by decide⟩
        have go_ := g
        refine g_put (C := RX4) (T := TX4) (N := 17) hx hb hts (mc_ inX4) tyX4 tyX4_ok nmX4 hown hK g ma1_ ka1_ (by decide) rfl 0 (by decide) (hts _ (List.mem_cons_of_mem _ t_837)) (fun _ h9 => h9) rfl rfl (okV_i (bd_sub kb_m1 (by decide))) rfl rfl (by decide) (Or.inr (Or.inl (by decide))) (fx' := [(10, 1, a0_, .ref q0_), (1, 0, q0_, .ref q1_), (1, 1, q0_, .ref q2_), (7, 1, q1_, .int y0_), (4, 6, a1_, .int y1_), (4, 14, a1_, .int y2_), (4, 4, a1_, .int y3_), (4, 3, a1_, .int y4_), (4, 2, a1_, .int w6_4_2_a1_), (4, 1, a1_, .int w6_4_1_a1_)]) rfl dX10_askNeeds_124 (fun f H locs hM_4 g => ?_)
        have hG_5 := cOK.frame hM_4 go_.2.2.2.1 mq1_ kq1_ (by decide) (by decide) hG6_c_q1_
        subst hQ
        exact W.vret hx hb hr (fun t ht hW => ⟨⟨_, rfl, ⟨(-1), (bd_sub kb_m1 (by decide)), w6_4_2_a1_, bw6_4_2_a1_, w6_4_1_a1_, bw6_4_1_a1_, (g.fcts [0, 9, 10] rfl)⟩, q3_of g hK ht hW⟩, g.2.2.1.F ht⟩) g.2.2.1.2.2 dX10_askNeeds_127
      · have fc_2 := nle_f c_2
        have b_6 : bd 0 7 v6_5 := ltL fc_2 bv6_5 kb_8 (by decide)
        refine lv_iload hx hb dX10_askNeeds_13 (lv_at hl 1 rfl) ?_
        refine lv_iconst (v := (-1)) hx hb dX10_askNeeds_15 (by decide) ?_
        have kb_m1 : bd (-1) (-1) ((-1) : Int32) := ⟨by decide, by decide⟩
        refine lv_icmp_eq (tgt := 122) hx hb dX10_askNeeds_16 (by decide) (fun c_7 => ?_) (fun c_7 => ?_)
        · have fc_7 := eq_f c_7
          have b_8 : bd (-1) (-1) v6_4 := eqX fc_7 bv6_4 kb_m1 (by decide)
          refine lv_aload_n hx hb dX10_askNeeds_122 rfl (lv_at hl 3 rfl) ?_
          refine lv_iconst (v := (-1)) hx hb dX10_askNeeds_123 (by decide) ?_
          have go_ := g
          refine g_put (C := RX4) (T := TX4) (N := 17) hx hb hts (mc_ inX4) tyX4 tyX4_ok nmX4 hown hK g ma1_ ka1_ (by decide) rfl 0 (by decide) (hts _ (List.mem_cons_of_mem _ t_837)) (fun _ h9 => h9) rfl rfl (okV_i (bd_sub kb_m1 (by decide))) rfl rfl (by decide) (Or.inr (Or.inl (by decide))) (fx' := [(10, 1, a0_, .ref q0_), (1, 0, q0_, .ref q1_), (1, 1, q0_, .ref q2_), (7, 1, q1_, .int y0_), (4, 6, a1_, .int y1_), (4, 14, a1_, .int y2_), (4, 4, a1_, .int y3_), (4, 3, a1_, .int y4_), (4, 2, a1_, .int w6_4_2_a1_), (4, 1, a1_, .int w6_4_1_a1_)]) rfl dX10_askNeeds_124 (fun f H locs hM_9 g => ?_)
          have hG_10 := cOK.frame hM_9 go_.2.2.2.1 mq1_ kq1_ (by decide) (by decide) hG6_c_q1_
          subst hQ
          exact W.vret hx hb hr (fun t ht hW => ⟨⟨_, rfl, ⟨(-1), (bd_sub kb_m1 (by decide)), w6_4_2_a1_, bw6_4_2_a1_, w6_4_1_a1_, bw6_4_1_a1_, (g.fcts [0, 9, 10] rfl)⟩, q3_of g hK ht hW⟩, g.2.2.1.F ht⟩) g.2.2.1.2.2 dX10_askNeeds_127
        · have fc_7 := neq_f c_7
          have b_11 : bd 0 95 v6_4 := neX fc_7 bv6_4 kb_m1 (by decide)
          refine lv_iconst (v := 1) hx hb dX10_askNeeds_19 (by decide) ?_
          refine lv_istore (lv' := [(6, .int 1), (5, .int v6_5), (4, .int v6_4), (0, .ref a0_), (1, .ref a1_), (2, .int x2_), (3, .int x3_)]) hx hb dX10_askNeeds_20 hl (by decide) rfl (fun ls hl => ?_)
          refine lv_aload_n hx hb dX10_askNeeds_22 rfl (lv_at hl 3 rfl) ?_
          refine lv_iload hx hb dX10_askNeeds_23 (lv_at hl 2 rfl) ?_
          have go_ := g
          refine g_calli (va_runV (As := [.int v6_4]) (rest := []) ⟨hx, hb, hml, hown, hts⟩ (r_X10_lastMark l dC dI L kd tys f H.size g.2.2.2.1 a0_ ma0_ ka0_ v6_4 b_11) (cwV 1 hts (gV_ t_1620 t_1622 t_71 t_194 t_1623) rfl rfl rfl (by decide +kernel) ⟨(Nat.le_of_ble_eq_true rfl), (Nat.le_of_ble_eq_true rfl)⟩) (pre3V g hK ma0_ ka0_ (by decide) (q := (RX10, TX10, 10)) rfl) rfl rfl hl.1 rfl (lv_room (Nat.le_of_ble_eq_true rfl)) dX10_askNeeds_25 ⟨(Nat.le_of_ble_eq_true rfl), (Nat.le_of_ble_eq_true rfl)⟩) g hK (by decide) (by decide) (fx' := [(10, 1, a0_, .ref q0_), (1, 0, q0_, .ref q1_), (1, 1, q0_, .ref q2_), (7, 1, q1_, .int y0_), (4, 6, a1_, .int y1_), (4, 14, a1_, .int y2_), (4, 4, a1_, .int y3_), (4, 3, a1_, .int y4_), (4, 2, a1_, .int w6_4_2_a1_), (4, 1, a1_, .int w6_4_1_a1_), (4, 0, a1_, .int w6_4_0_a1_)]) rfl (fun r_12 fr_12 H locs hp hMr_12 g => ?_)
          obtain ⟨h_13, -⟩ := hp
          have hG_14 := cOK.frame hMr_12 go_.2.2.2.1 mq1_ kq1_ (by decide) (by decide) hG6_c_q1_
          refine lv_istore (lv' := [(7, .int r_12), (6, .int 1), (5, .int v6_5), (4, .int v6_4), (0, .ref a0_), (1, .ref a1_), (2, .int x2_), (3, .int x3_)]) hx hb dX10_askNeeds_28 hl (by decide) rfl (fun ls hl => ?_)
          refine lv_aload_n hx hb dX10_askNeeds_30 rfl (lv_at hl 4 rfl) ?_
          refine g_getr (K := 7) (C := RX10) (T := TX10) (N := 10) hx hb hts (mc_ inX10) hown hK g ma0_ ka0_ (by decide) rfl 0 (by decide) rfl (hts _ (List.mem_cons_of_mem _ t_912)) (fun _ h9 => h9) rfl dX10_askNeeds_31 (fun a_15 ma_15 ka_15 g => ?_)
          refine g_getr (K := 137) (C := RX7) (T := TX7) (N := 19) hx hb hts (mc_ inX7) hown hK g ma_15 ka_15 (by decide) rfl 2 (by decide) rfl (hts _ (List.mem_cons_of_mem _ t_634)) (fun _ h9 => h9) rfl dX10_askNeeds_34 (fun a_16 ma_16 ka_16 g => ?_)
          refine lv_iload hx hb dX10_askNeeds_37 (lv_at hl 3 rfl) ?_
          refine g_aald hx hb hK g ma_16 ka_16 (by decide) rfl (by decide) (in_bd b_11 (by decide)) dX10_askNeeds_39 (fun a_17 ma_17 ua_17 wa_17 => ?_)
          have ka_17 : kd a_17 = 6 := by omega
          refine g_geti (C := RX6) (T := TX6) (N := 13) hx hb hts (mc_ inX6) hown hK g ma_17 ka_17 (by decide) rfl 11 (by decide) rfl (hts _ (List.mem_cons_of_mem _ t_590)) (fun _ h9 => h9) rfl dX10_askNeeds_40 (fun x_18 bx_18 g => ?_)
          refine lv_istore (lv' := [(8, .int x_18), (7, .int r_12), (6, .int 1), (5, .int v6_5), (4, .int v6_4), (0, .ref a0_), (1, .ref a1_), (2, .int x2_), (3, .int x3_)]) hx hb dX10_askNeeds_43 hl (by decide) rfl (fun ls hl => ?_)
          have loop_19 : ∀ (n : Nat) (v45_8 : Int32) (v45_6 : Int32) (w45_4_2_a1_ : Int32) (w45_4_1_a1_ : Int32) (w45_4_0_a1_ : Int32), bd 0 500 v45_8 → bd 0 1 v45_6 → bd (-1) 2147483647 w45_4_2_a1_ → bd (-1) 2147483647 w45_4_1_a1_ → bd 0 8 w45_4_0_a1_ → (500 - v45_8.toInt < (n : Int)) → ∀ (f : Nat → va_E) (H : Heap) (locs : List Loc) (ls : Array Slot), G3 (dC, dI) L kd tys s f0 [(1, 5), (1, 6), (1, 8), (1, 11), (1, 12), (1, 13), (1, 14), (1, 15), (1, 16), (1, 17), (4, 0), (4, 1), (4, 2), (4, 5)] [100, 116, 117, 146] f H locs [(6, 11, a_17, .int x_18), (7, 2, a_15, .ref a_16), (10, 0, a0_, .ref a_15), (10, 1, a0_, .ref q0_), (1, 0, q0_, .ref q1_), (1, 1, q0_, .ref q2_), (7, 1, q1_, .int y0_), (4, 6, a1_, .int y1_), (4, 14, a1_, .int y2_), (4, 4, a1_, .int y3_), (4, 3, a1_, .int y4_), (4, 2, a1_, .int w45_4_2_a1_), (4, 1, a1_, .int w45_4_1_a1_), (4, 0, a1_, .int w45_4_0_a1_)] → cOK f q1_ → lv_has ls 9 [(8, .int v45_8), (7, .int r_12), (6, .int v45_6), (5, .int v6_5), (4, .int v6_4), (0, .ref a0_), (1, .ref a1_), (2, .int x2_), (3, .int x3_)] → W p l e ({ frames := 3, cells := 0, slots := 0, locals := 73 } : Room) s m [.ref a0_, .ref a1_, .int x2_, .int x3_].toArray below meth c H locs 0 0 Q (F0 m 45 ls []) := by
            intro n45
            induction n45 with
            | zero =>
              intro v45_8 v45_6 w45_4_2_a1_ w45_4_1_a1_ w45_4_0_a1_ bv45_8 bv45_6 bw45_4_2_a1_ bw45_4_1_a1_ bw45_4_0_a1_ hm45 f H locs ls g hG45_c_q1_ hl
              exact absurd hm45 (by have h9_v45_8 := bv45_8; unfold bd at h9_v45_8; have h9_v45_6 := bv45_6; unfold bd at h9_v45_6; have h9_w45_4_2_a1_ := bw45_4_2_a1_; unfold bd at h9_w45_4_2_a1_; have h9_w45_4_1_a1_ := bw45_4_1_a1_; unfold bd at h9_w45_4_1_a1_; have h9_w45_4_0_a1_ := bw45_4_0_a1_; unfold bd at h9_w45_4_0_a1_; omega)
            | succ n45 ih45 =>
              intro v45_8 v45_6 w45_4_2_a1_ w45_4_1_a1_ w45_4_0_a1_ bv45_8 bv45_6 bw45_4_2_a1_ bw45_4_1_a1_ bw45_4_0_a1_ hm45 f H locs ls g hG45_c_q1_ hl
              refine lv_iload hx hb dX10_askNeeds_45 (lv_at hl 0 rfl) ?_
              refine lv_iload hx hb dX10_askNeeds_47 (lv_at hl 1 rfl) ?_
              refine lv_icmp_gt (tgt := 95) hx hb dX10_askNeeds_49 (by decide) (fun c_20 => ?_) (fun c_20 => ?_)
              · have fc_20 := lt_f c_20
                refine lv_iload hx hb dX10_askNeeds_95 (lv_at hl 2 rfl) ?_
                have kb_0 : bd 0 0 (0 : Int32) := ⟨by decide, by decide⟩
                refine lv_if_ne (tgt := 107) hx hb dX10_askNeeds_97 (by decide) (fun c_21 => ?_) (fun c_21 => ?_)
                · have fc_21 := neq_f c_21
                  have b_22 : bd 1 1 v45_6 := neX fc_21 bv45_6 kb_0 (by decide)
                  subst hQ
                  exact W.vret hx hb hr (fun t ht hW => ⟨⟨_, rfl, ⟨w45_4_0_a1_, (bd_sub bw45_4_0_a1_ (by decide)), w45_4_2_a1_, bw45_4_2_a1_, w45_4_1_a1_, bw45_4_1_a1_, (g.fcts [13, 11, 12] rfl)⟩, q3_of g hK ht hW⟩, g.2.2.1.F ht⟩) g.2.2.1.2.2 dX10_askNeeds_107
                · have fc_21 := eq_f c_21
                  have b_23 : bd 0 0 v45_6 := eqX fc_21 bv45_6 kb_0 (by decide)
                  refine lv_aload_n hx hb dX10_askNeeds_100 rfl (lv_at hl 6 rfl) ?_
                  refine g_getk (C := RX4) (T := TX4) (N := 17) hx hb hts (mc_ inX4) hown hK g rfl 0 (by decide) rfl (hts _ (List.mem_cons_of_mem _ t_837)) (fun _ h9 => h9) 13 rfl dX10_askNeeds_101 ?_
                  refine lv_if_eq (tgt := 108) hx hb dX10_askNeeds_104 (by decide) (fun c_24 => ?_) (fun c_24 => ?_)
                  · have fc_24 := eq_f c_24
                    have b_25 : bd 0 0 w45_4_0_a1_ := eqX fc_24 bw45_4_0_a1_ kb_0 (by decide)
                    refine lv_aload_n hx hb dX10_askNeeds_108 rfl (lv_at hl 5 rfl) ?_
                    refine lv_iload hx hb dX10_askNeeds_109 (lv_at hl 4 rfl) ?_
                    have go_ := g
                    refine g_calli (va_runV (As := [.int v6_4]) (rest := []) ⟨hx, hb, hml, hown, hts⟩ (r_X10_upwards l dC dI L kd tys f H.size g.2.2.2.1 a0_ ma0_ ka0_ v6_4) (cwV 1 hts (gV_ t_1625 t_1627 t_72 t_194 t_1628) rfl rfl rfl (by decide +kernel) ⟨(Nat.le_of_ble_eq_true rfl), (Nat.le_of_ble_eq_true rfl)⟩) (pre3V g hK ma0_ ka0_ (by decide) (q := (RX10, TX10, 10)) rfl) rfl rfl hl.1 rfl (lv_room (Nat.le_of_ble_eq_true rfl)) dX10_askNeeds_111 ⟨(Nat.le_of_ble_eq_true rfl), (Nat.le_of_ble_eq_true rfl)⟩) g hK (by decide) (by decide) (fx' := [(6, 11, a_17, .int x_18), (7, 2, a_15, .ref a_16), (10, 0, a0_, .ref a_15), (10, 1, a0_, .ref q0_), (1, 0, q0_, .ref q1_), (1, 1, q0_, .ref q2_), (7, 1, q1_, .int y0_), (4, 6, a1_, .int y1_), (4, 14, a1_, .int y2_), (4, 4, a1_, .int y3_), (4, 3, a1_, .int y4_), (4, 2, a1_, .int w45_4_2_a1_), (4, 1, a1_, .int w45_4_1_a1_), (4, 0, a1_, .int w45_4_0_a1_)]) rfl (fun r_26 fr_26 H locs hp hMr_26 g => ?_)
                    obtain ⟨h_27, -⟩ := hp
                    have hG_28 := cOK.frame hMr_26 go_.2.2.2.1 mq1_ kq1_ (by decide) (by decide) hG45_c_q1_
                    refine lv_istore (lv' := [(4, .int r_26), (8, .int v45_8), (7, .int r_12), (6, .int v45_6), (5, .int v6_5), (0, .ref a0_), (1, .ref a1_), (2, .int x2_), (3, .int x3_)]) hx hb dX10_askNeeds_114 hl (by decide) rfl (fun ls hl => ?_)
                    have kb_1 : bd 1 1 (1 : Int32) := ⟨by decide, by decide⟩
                    obtain ⟨y_29, ey_29⟩ : ∃ z : Int32, z = v6_5 + 1 := ⟨_, rfl⟩
                    refine lv_iinc (v := y_29) (lv' := [(5, .int y_29), (4, .int r_26), (8, .int v45_8), (7, .int r_12), (6, .int v45_6), (0, .ref a0_), (1, .ref a1_), (2, .int x2_), (3, .int x3_)]) hx hb dX10_askNeeds_116 hl (k := 4) rfl (by rw [ey_29]; rfl) (by decide) rfl (fun ls hl => ?_)
                    have ty_29 := add_bd ey_29 b_6 kb_1 (by decide)
                    have b_30 : bd 1 8 y_29 := add_rg ty_29 b_6 kb_1 (by decide)
                    refine lv_goto (tgt := 6) hx hb dX10_askNeeds_119 (by decide) ?_
                    have hl9 := lv_sub hl [0, 1, 5, 6, 7, 8] (by rfl : lv_pick [(5, .int y_29), (4, .int r_26), (8, .int v45_8), (7, .int r_12), (6, .int v45_6), (0, .ref a0_), (1, .ref a1_), (2, .int x2_), (3, .int x3_)] [0, 1, 5, 6, 7, 8] = [(5, .int y_29), (4, .int r_26), (0, .ref a0_), (1, .ref a1_), (2, .int x2_), (3, .int x3_)])
                    have g9 := g.sub (fx' := [(10, 1, a0_, .ref q0_), (1, 0, q0_, .ref q1_), (1, 1, q0_, .ref q2_), (7, 1, q1_, .int y0_), (4, 6, a1_, .int y1_), (4, 14, a1_, .int y2_), (4, 4, a1_, .int y3_), (4, 3, a1_, .int y4_), (4, 2, a1_, .int w45_4_2_a1_), (4, 1, a1_, .int w45_4_1_a1_), (4, 0, a1_, .int w45_4_0_a1_)]) [3, 4, 5, 6, 7, 8, 9, 10, 11, 12, 13] rfl
                    exact ih6  y_29 r_26 w45_4_2_a1_ w45_4_1_a1_ w45_4_0_a1_ (bd_sub b_30 (by decide)) h_27 bw45_4_2_a1_ bw45_4_1_a1_ b_25 (by have h9_0 := b_25; unfold bd at h9_0; have h9_1 := b_30; unfold bd at h9_1; have h9_2 := bv6_4; unfold bd at h9_2; have h9_3 := bv6_5; unfold bd at h9_3; have h9_4 := bw45_4_1_a1_; unfold bd at h9_4; have h9_5 := bw45_4_2_a1_; unfold bd at h9_5; have h9_6 := bw6_4_0_a1_; unfold bd at h9_6; have h9_7 := bw6_4_1_a1_; unfold bd at h9_7; have h9_8 := bw6_4_2_a1_; unfold bd at h9_8; have h9_9 := h_27; unfold bd at h9_9; have h9_10 := kb_0; unfold bd at h9_10; have h9_11 := kb_1; unfold bd at h9_11; have h9_12 := kb_8; unfold bd at h9_12; have h9_13 := kb_m1; unfold bd at h9_13; omega) _ _ _ _ g9 hG_28 hl9
                  · have fc_24 := neq_f c_24
                    have b_31 : bd 1 8 w45_4_0_a1_ := neX fc_24 bw45_4_0_a1_ kb_0 (by decide)
                    subst hQ
                    exact W.vret hx hb hr (fun t ht hW => ⟨⟨_, rfl, ⟨w45_4_0_a1_, (bd_sub b_31 (by decide)), w45_4_2_a1_, bw45_4_2_a1_, w45_4_1_a1_, bw45_4_1_a1_, (g.fcts [13, 11, 12] rfl)⟩, q3_of g hK ht hW⟩, g.2.2.1.F ht⟩) g.2.2.1.2.2 dX10_askNeeds_107
              · have fc_20 := nlt_f c_20
                have b_32 : bd 0 499 v45_8 := leL fc_20 bv45_8 h_13 (by decide)
                have b_33 : bd 0 499 r_12 := leR fc_20 bv45_8 h_13 (by decide)
                refine lv_iload hx hb dX10_askNeeds_52 (lv_at hl 2 rfl) ?_
                have kb_0 : bd 0 0 (0 : Int32) := ⟨by decide, by decide⟩
                refine lv_if_eq (tgt := 95) hx hb dX10_askNeeds_54 (by decide) (fun c_34 => ?_) (fun c_34 => ?_)
                · have fc_34 := eq_f c_34
                  have b_35 : bd 0 0 v45_6 := eqX fc_34 bv45_6 kb_0 (by decide)
                  refine lv_iload hx hb dX10_askNeeds_95 (lv_at hl 2 rfl) ?_
                  refine lv_if_ne (tgt := 107) hx hb dX10_askNeeds_97 (by decide) (fun c_36 => ?_) (fun c_36 => ?_)
                  · have fc_36 := neq_f c_36
                    have b_37 : bd 1 (-1) v45_6 := neX fc_36 b_35 kb_0 (by decide)
                    exact bd_no b_37 (by decide)
                  · have fc_36 := eq_f c_36
                    refine lv_aload_n hx hb dX10_askNeeds_100 rfl (lv_at hl 6 rfl) ?_
                    refine g_getk (C := RX4) (T := TX4) (N := 17) hx hb hts (mc_ inX4) hown hK g rfl 0 (by decide) rfl (hts _ (List.mem_cons_of_mem _ t_837)) (fun _ h9 => h9) 13 rfl dX10_askNeeds_101 ?_
                    refine lv_if_eq (tgt := 108) hx hb dX10_askNeeds_104 (by decide) (fun c_38 => ?_) (fun c_38 => ?_)
                    · have fc_38 := eq_f c_38
                      have b_39 : bd 0 0 w45_4_0_a1_ := eqX fc_38 bw45_4_0_a1_ kb_0 (by decide)
                      refine lv_aload_n hx hb dX10_askNeeds_108 rfl (lv_at hl 5 rfl) ?_
                      refine lv_iload hx hb dX10_askNeeds_109 (lv_at hl 4 rfl) ?_
                      have go_ := g
                      refine g_calli (va_runV (As := [.int v6_4]) (rest := []) ⟨hx, hb, hml, hown, hts⟩ (r_X10_upwards l dC dI L kd tys f H.size g.2.2.2.1 a0_ ma0_ ka0_ v6_4) (cwV 1 hts (gV_ t_1625 t_1627 t_72 t_194 t_1628) rfl rfl rfl (by decide +kernel) ⟨(Nat.le_of_ble_eq_true rfl), (Nat.le_of_ble_eq_true rfl)⟩) (pre3V g hK ma0_ ka0_ (by decide) (q := (RX10, TX10, 10)) rfl) rfl rfl hl.1 rfl (lv_room (Nat.le_of_ble_eq_true rfl)) dX10_askNeeds_111 ⟨(Nat.le_of_ble_eq_true rfl), (Nat.le_of_ble_eq_true rfl)⟩) g hK (by decide) (by decide) (fx' := [(6, 11, a_17, .int x_18), (7, 2, a_15, .ref a_16), (10, 0, a0_, .ref a_15), (10, 1, a0_, .ref q0_), (1, 0, q0_, .ref q1_), (1, 1, q0_, .ref q2_), (7, 1, q1_, .int y0_), (4, 6, a1_, .int y1_), (4, 14, a1_, .int y2_), (4, 4, a1_, .int y3_), (4, 3, a1_, .int y4_), (4, 2, a1_, .int w45_4_2_a1_), (4, 1, a1_, .int w45_4_1_a1_), (4, 0, a1_, .int w45_4_0_a1_)]) rfl (fun r_40 fr_40 H locs hp hMr_40 g => ?_)
                      obtain ⟨h_41, -⟩ := hp
                      have hG_42 := cOK.frame hMr_40 go_.2.2.2.1 mq1_ kq1_ (by decide) (by decide) hG45_c_q1_
                      refine lv_istore (lv' := [(4, .int r_40), (8, .int v45_8), (7, .int r_12), (6, .int v45_6), (5, .int v6_5), (0, .ref a0_), (1, .ref a1_), (2, .int x2_), (3, .int x3_)]) hx hb dX10_askNeeds_114 hl (by decide) rfl (fun ls hl => ?_)
                      have kb_1 : bd 1 1 (1 : Int32) := ⟨by decide, by decide⟩
                      obtain ⟨y_43, ey_43⟩ : ∃ z : Int32, z = v6_5 + 1 := ⟨_, rfl⟩
                      refine lv_iinc (v := y_43) (lv' := [(5, .int y_43), (4, .int r_40), (8, .int v45_8), (7, .int r_12), (6, .int v45_6), (0, .ref a0_), (1, .ref a1_), (2, .int x2_), (3, .int x3_)]) hx hb dX10_askNeeds_116 hl (k := 4) rfl (by rw [ey_43]; rfl) (by decide) rfl (fun ls hl => ?_)
                      have ty_43 := add_bd ey_43 b_6 kb_1 (by decide)
                      have b_44 : bd 1 8 y_43 := add_rg ty_43 b_6 kb_1 (by decide)
                      refine lv_goto (tgt := 6) hx hb dX10_askNeeds_119 (by decide) ?_
                      have hl9 := lv_sub hl [0, 1, 5, 6, 7, 8] (by rfl : lv_pick [(5, .int y_43), (4, .int r_40), (8, .int v45_8), (7, .int r_12), (6, .int v45_6), (0, .ref a0_), (1, .ref a1_), (2, .int x2_), (3, .int x3_)] [0, 1, 5, 6, 7, 8] = [(5, .int y_43), (4, .int r_40), (0, .ref a0_), (1, .ref a1_), (2, .int x2_), (3, .int x3_)])
                      have g9 := g.sub (fx' := [(10, 1, a0_, .ref q0_), (1, 0, q0_, .ref q1_), (1, 1, q0_, .ref q2_), (7, 1, q1_, .int y0_), (4, 6, a1_, .int y1_), (4, 14, a1_, .int y2_), (4, 4, a1_, .int y3_), (4, 3, a1_, .int y4_), (4, 2, a1_, .int w45_4_2_a1_), (4, 1, a1_, .int w45_4_1_a1_), (4, 0, a1_, .int w45_4_0_a1_)]) [3, 4, 5, 6, 7, 8, 9, 10, 11, 12, 13] rfl
                      exact ih6  y_43 r_40 w45_4_2_a1_ w45_4_1_a1_ w45_4_0_a1_ (bd_sub b_44 (by decide)) h_41 bw45_4_2_a1_ bw45_4_1_a1_ b_39 (by have h9_0 := b_39; unfold bd at h9_0; have h9_1 := b_44; unfold bd at h9_1; have h9_2 := bv6_4; unfold bd at h9_2; have h9_3 := bv6_5; unfold bd at h9_3; have h9_4 := bw45_4_1_a1_; unfold bd at h9_4; have h9_5 := bw45_4_2_a1_; unfold bd at h9_5; have h9_6 := bw6_4_0_a1_; unfold bd at h9_6; have h9_7 := bw6_4_1_a1_; unfold bd at h9_7; have h9_8 := bw6_4_2_a1_; unfold bd at h9_8; have h9_9 := h_41; unfold bd at h9_9; have h9_10 := kb_0; unfold bd at h9_10; have h9_11 := kb_1; unfold bd at h9_11; have h9_12 := kb_8; unfold bd at h9_12; have h9_13 := kb_m1; unfold bd at h9_13; omega) _ _ _ _ g9 hG_42 hl9
                    · have fc_38 := neq_f c_38
                      have b_45 : bd 1 8 w45_4_0_a1_ := neX fc_38 bw45_4_0_a1_ kb_0 (by decide)
                      subst hQ
                      exact W.vret hx hb hr (fun t ht hW => ⟨⟨_, rfl, ⟨w45_4_0_a1_, (bd_sub b_45 (by decide)), w45_4_2_a1_, bw45_4_2_a1_, w45_4_1_a1_, bw45_4_1_a1_, (g.fcts [13, 11, 12] rfl)⟩, q3_of g hK ht hW⟩, g.2.2.1.F ht⟩) g.2.2.1.2.2 dX10_askNeeds_107
                · have fc_34 := neq_f c_34
                  have b_46 : bd 1 1 v45_6 := neX fc_34 bv45_6 kb_0 (by decide)
                  refine lv_aload_n hx hb dX10_askNeeds_57 rfl (lv_at hl 5 rfl) ?_
                  refine g_getk (C := RX10) (T := TX10) (N := 10) hx hb hts (mc_ inX10) hown hK g rfl 0 (by decide) rfl (hts _ (List.mem_cons_of_mem _ t_912)) (fun _ h9 => h9) 2 rfl dX10_askNeeds_58 ?_
                  refine g_getr (K := 140) (C := RX7) (T := TX7) (N := 19) hx hb hts (mc_ inX7) hown hK g ma_15 ka_15 (by decide) rfl 7 (by decide) rfl (hts _ (List.mem_cons_of_mem _ t_650)) (fun _ h9 => h9) rfl dX10_askNeeds_61 (fun a_47 ma_47 ka_47 g => ?_)
                  refine lv_iload hx hb dX10_askNeeds_64 (lv_at hl 0 rfl) ?_
                  refine g_iald hx hb hK g ma_47 ka_47 (by decide) rfl (in_bd b_32 (by decide)) dX10_askNeeds_66 (fun x_48 bx_48 cx_48 => ?_)
                  refine lv_iconst (v := 1) hx hb dX10_askNeeds_67 (by decide) ?_
                  have kb_1 : bd 1 1 (1 : Int32) := ⟨by decide, by decide⟩
                  refine lv_icmp_ne (tgt := 82) hx hb dX10_askNeeds_68 (by decide) (fun c_49 => ?_) (fun c_49 => ?_)
                  · have fc_49 := neq_f c_49
                    refine lv_iconst (v := 1) hx hb dX10_askNeeds_82 (by decide) ?_
                    refine lv_goto (tgt := 87) hx hb dX10_askNeeds_83 (by decide) ?_
                    refine lv_istore (lv' := [(6, .int 1), (8, .int v45_8), (7, .int r_12), (5, .int v6_5), (4, .int v6_4), (0, .ref a0_), (1, .ref a1_), (2, .int x2_), (3, .int x3_)]) hx hb dX10_askNeeds_87 hl (by decide) rfl (fun ls hl => ?_)
                    obtain ⟨y_50, ey_50⟩ : ∃ z : Int32, z = v45_8 + 1 := ⟨_, rfl⟩
                    refine lv_iinc (v := y_50) (lv' := [(8, .int y_50), (6, .int 1), (7, .int r_12), (5, .int v6_5), (4, .int v6_4), (0, .ref a0_), (1, .ref a1_), (2, .int x2_), (3, .int x3_)]) hx hb dX10_askNeeds_89 hl (k := 1) rfl (by rw [ey_50]; rfl) (by decide) rfl (fun ls hl => ?_)
                    have ty_50 := add_bd ey_50 b_32 kb_1 (by decide)
                    have b_51 : bd 1 500 y_50 := add_rg ty_50 b_32 kb_1 (by decide)
                    refine lv_goto (tgt := 45) hx hb dX10_askNeeds_92 (by decide) ?_
                    have hl9 := lv_sub hl [0, 2, 1, 3, 4, 5, 6, 7, 8] (by rfl : lv_pick [(8, .int y_50), (6, .int 1), (7, .int r_12), (5, .int v6_5), (4, .int v6_4), (0, .ref a0_), (1, .ref a1_), (2, .int x2_), (3, .int x3_)] [0, 2, 1, 3, 4, 5, 6, 7, 8] = [(8, .int y_50), (7, .int r_12), (6, .int 1), (5, .int v6_5), (4, .int v6_4), (0, .ref a0_), (1, .ref a1_), (2, .int x2_), (3, .int x3_)])
                    have g9 := g.sub (fx' := [(6, 11, a_17, .int x_18), (7, 2, a_15, .ref a_16), (10, 0, a0_, .ref a_15), (10, 1, a0_, .ref q0_), (1, 0, q0_, .ref q1_), (1, 1, q0_, .ref q2_), (7, 1, q1_, .int y0_), (4, 6, a1_, .int y1_), (4, 14, a1_, .int y2_), (4, 4, a1_, .int y3_), (4, 3, a1_, .int y4_), (4, 2, a1_, .int w45_4_2_a1_), (4, 1, a1_, .int w45_4_1_a1_), (4, 0, a1_, .int w45_4_0_a1_)]) [1, 2, 3, 4, 5, 6, 7, 8, 9, 10, 11, 12, 13, 14] rfl
                    exact ih45  y_50 1 w45_4_2_a1_ w45_4_1_a1_ w45_4_0_a1_ (bd_sub b_51 (by decide)) (bd_sub kb_1 (by decide)) bw45_4_2_a1_ bw45_4_1_a1_ bw45_4_0_a1_ (by have h9_0 := b_51; unfold bd at h9_0; have h9_1 := bv45_6; unfold bd at h9_1; have h9_2 := bv45_8; unfold bd at h9_2; have h9_3 := bw45_4_0_a1_; unfold bd at h9_3; have h9_4 := bw45_4_1_a1_; unfold bd at h9_4; have h9_5 := bw45_4_2_a1_; unfold bd at h9_5; have h9_6 := kb_0; unfold bd at h9_6; have h9_7 := kb_1; unfold bd at h9_7; have h9_8 := kb_8; unfold bd at h9_8; have h9_9 := kb_m1; unfold bd at h9_9; omega) _ _ _ _ g9 hG45_c_q1_ hl9
                  · have fc_49 := eq_f c_49
                    have b_52 : bd 1 1 x_48 := eqX fc_49 (bdT x_48) kb_1 (by decide)
                    refine lv_aload_n hx hb dX10_askNeeds_71 rfl (lv_at hl 5 rfl) ?_
                    refine lv_aload_n hx hb dX10_askNeeds_72 rfl (lv_at hl 6 rfl) ?_
                    refine lv_iload hx hb dX10_askNeeds_73 (lv_at hl 0 rfl) ?_
                    refine lv_iload_n hx hb dX10_askNeeds_75 rfl (lv_at hl 7 rfl) ?_
                    have go_ := g
                    refine g_calli (va_runV (As := [.ref a1_, .int v45_8, .int x2_]) (rest := []) ⟨hx, hb, hml, hown, hts⟩ (r_X10_holds_13 l dC dI L kd tys f H.size g.2.2.2.1 a0_ ma0_ ka0_ a1_ ma1_ ka1_ v45_8 b_32 x2_ bx2_ q0_ mq0_ kq0_ q1_ mq1_ kq1_ q2_ mq2_ kq2_ y0_ by0_ y1_ by1_ y2_ by2_ y3_ by3_ y4_ by4_ w45_4_2_a1_ bw45_4_2_a1_ w45_4_1_a1_ bw45_4_1_a1_ w45_4_0_a1_ bw45_4_0_a1_ hG45_c_q1_ (g.fcts [4, 5, 6, 7, 8, 9, 10, 11, 12, 13, 14] rfl)) (cwV 3 hts (gV_ t_1547 t_1549 t_57 t_194 t_1550) rfl rfl rfl (by decide +kernel) ⟨(Nat.le_of_ble_eq_true rfl), (Nat.le_of_ble_eq_true rfl)⟩) (pre3V g hK ma0_ ka0_ (by decide) (q := (RX10, TX10, 10)) rfl) rfl rfl hl.1 rfl (lv_room (Nat.le_of_ble_eq_true rfl)) dX10_askNeeds_76 ⟨(Nat.le_of_ble_eq_true rfl), (Nat.le_of_ble_eq_true rfl)⟩) g hK (by decide) (by decide) (fx' := [(7, 7, a_15, .ref a_47), (6, 11, a_17, .int x_18), (7, 2, a_15, .ref a_16), (10, 0, a0_, .ref a_15), (10, 1, a0_, .ref q0_), (1, 0, q0_, .ref q1_), (1, 1, q0_, .ref q2_), (7, 1, q1_, .int y0_), (4, 6, a1_, .int y1_), (4, 14, a1_, .int y2_), (4, 4, a1_, .int y3_), (4, 3, a1_, .int y4_)]) rfl (fun r_53 fr_53 H locs hp hMr_53 g => ?_)
                    rcases hp with ⟨h_54, x_55, h_56, x_57, h_58, x_59, h_60, hF_61⟩ | ⟨h_62, x_63, h_64, hF_65⟩
                    · have hG_66 := cOK.frame hMr_53 go_.2.2.2.1 mq1_ kq1_ (by decide) (by decide) hG45_c_q1_
                      obtain rfl : r_53 = 0 := h_54
                      have g := g.more hF_61
                      refine lv_if_eq (tgt := 86) hx hb dX10_askNeeds_79 (by decide) (fun c_ => ?_) (fun c_ => absurd (by decide) c_)
                      refine lv_iconst (v := 0) hx hb dX10_askNeeds_86 (by decide) ?_
                      refine lv_istore (lv' := [(6, .int 0), (8, .int v45_8), (7, .int r_12), (5, .int v6_5), (4, .int v6_4), (0, .ref a0_), (1, .ref a1_), (2, .int x2_), (3, .int x3_)]) hx hb dX10_askNeeds_87 hl (by decide) rfl (fun ls hl => ?_)
                      obtain ⟨y_67, ey_67⟩ : ∃ z : Int32, z = v45_8 + 1 := ⟨_, rfl⟩
                      refine lv_iinc (v := y_67) (lv' := [(8, .int y_67), (6, .int 0), (7, .int r_12), (5, .int v6_5), (4, .int v6_4), (0, .ref a0_), (1, .ref a1_), (2, .int x2_), (3, .int x3_)]) hx hb dX10_askNeeds_89 hl (k := 1) rfl (by rw [ey_67]; rfl) (by decide) rfl (fun ls hl => ?_)
                      have ty_67 := add_bd ey_67 b_32 kb_1 (by decide)
                      have b_68 : bd 1 500 y_67 := add_rg ty_67 b_32 kb_1 (by decide)
                      refine lv_goto (tgt := 45) hx hb dX10_askNeeds_92 (by decide) ?_
                      have hl9 := lv_sub hl [0, 2, 1, 3, 4, 5, 6, 7, 8] (by rfl : lv_pick [(8, .int y_67), (6, .int 0), (7, .int r_12), (5, .int v6_5), (4, .int v6_4), (0, .ref a0_), (1, .ref a1_), (2, .int x2_), (3, .int x3_)] [0, 2, 1, 3, 4, 5, 6, 7, 8] = [(8, .int y_67), (7, .int r_12), (6, .int 0), (5, .int v6_5), (4, .int v6_4), (0, .ref a0_), (1, .ref a1_), (2, .int x2_), (3, .int x3_)])
                      have g9 := g.sub (fx' := [(6, 11, a_17, .int x_18), (7, 2, a_15, .ref a_16), (10, 0, a0_, .ref a_15), (10, 1, a0_, .ref q0_), (1, 0, q0_, .ref q1_), (1, 1, q0_, .ref q2_), (7, 1, q1_, .int y0_), (4, 6, a1_, .int y1_), (4, 14, a1_, .int y2_), (4, 4, a1_, .int y3_), (4, 3, a1_, .int y4_), (4, 2, a1_, .int x_55), (4, 1, a1_, .int x_57), (4, 0, a1_, .int x_59)]) [6, 7, 8, 9, 10, 11, 12, 13, 14, 15, 16, 0, 1, 2] rfl
                      exact ih45  y_67 0 x_55 x_57 x_59 (bd_sub b_68 (by decide)) (bd_sub kb_0 (by decide)) h_56 h_58 h_60 (by have h9_0 := b_68; unfold bd at h9_0; have h9_1 := bv45_6; unfold bd at h9_1; have h9_2 := bv45_8; unfold bd at h9_2; have h9_3 := bw45_4_0_a1_; unfold bd at h9_3; have h9_4 := bw45_4_1_a1_; unfold bd at h9_4; have h9_5 := bw45_4_2_a1_; unfold bd at h9_5; have h9_6 := h_56; unfold bd at h9_6; have h9_7 := h_58; unfold bd at h9_7; have h9_8 := h_60; unfold bd at h9_8; have h9_9 := kb_0; unfold bd at h9_9; have h9_10 := kb_1; unfold bd at h9_10; have h9_11 := kb_8; unfold bd at h9_11; have h9_12 := kb_m1; unfold bd at h9_12; omega) _ _ _ _ g9 hG_66 hl9
                    · have hG_69 := cOK.frame hMr_53 go_.2.2.2.1 mq1_ kq1_ (by decide) (by decide) hG45_c_q1_
                      obtain rfl : r_53 = 1 := h_62
                      have g := g.more hF_65
                      refine lv_if_eq (tgt := 86) hx hb dX10_askNeeds_79 (by decide) (fun c_ => absurd c_ (by decide)) (fun c_ => ?_)
                      refine lv_iconst (v := 1) hx hb dX10_askNeeds_82 (by decide) ?_
                      refine lv_goto (tgt := 87) hx hb dX10_askNeeds_83 (by decide) ?_
                      refine lv_istore (lv' := [(6, .int 1), (8, .int v45_8), (7, .int r_12), (5, .int v6_5), (4, .int v6_4), (0, .ref a0_), (1, .ref a1_), (2, .int x2_), (3, .int x3_)]) hx hb dX10_askNeeds_87 hl (by decide) rfl (fun ls hl => ?_)
                      obtain ⟨y_70, ey_70⟩ : ∃ z : Int32, z = v45_8 + 1 := ⟨_, rfl⟩
                      refine lv_iinc (v := y_70) (lv' := [(8, .int y_70), (6, .int 1), (7, .int r_12), (5, .int v6_5), (4, .int v6_4), (0, .ref a0_), (1, .ref a1_), (2, .int x2_), (3, .int x3_)]) hx hb dX10_askNeeds_89 hl (k := 1) rfl (by rw [ey_70]; rfl) (by decide) rfl (fun ls hl => ?_)
                      have ty_70 := add_bd ey_70 b_32 kb_1 (by decide)
                      have b_71 : bd 1 500 y_70 := add_rg ty_70 b_32 kb_1 (by decide)
                      refine lv_goto (tgt := 45) hx hb dX10_askNeeds_92 (by decide) ?_
                      have hl9 := lv_sub hl [0, 2, 1, 3, 4, 5, 6, 7, 8] (by rfl : lv_pick [(8, .int y_70), (6, .int 1), (7, .int r_12), (5, .int v6_5), (4, .int v6_4), (0, .ref a0_), (1, .ref a1_), (2, .int x2_), (3, .int x3_)] [0, 2, 1, 3, 4, 5, 6, 7, 8] = [(8, .int y_70), (7, .int r_12), (6, .int 1), (5, .int v6_5), (4, .int v6_4), (0, .ref a0_), (1, .ref a1_), (2, .int x2_), (3, .int x3_)])
                      have g9 := g.sub (fx' := [(6, 11, a_17, .int x_18), (7, 2, a_15, .ref a_16), (10, 0, a0_, .ref a_15), (10, 1, a0_, .ref q0_), (1, 0, q0_, .ref q1_), (1, 1, q0_, .ref q2_), (7, 1, q1_, .int y0_), (4, 6, a1_, .int y1_), (4, 14, a1_, .int y2_), (4, 4, a1_, .int y3_), (4, 3, a1_, .int y4_), (4, 2, a1_, .int w45_4_2_a1_), (4, 1, a1_, .int w45_4_1_a1_), (4, 0, a1_, .int w45_4_0_a1_)]) [7, 8, 9, 10, 11, 12, 13, 14, 15, 16, 17, 3, 4, 5] rfl
                      exact ih45  y_70 1 w45_4_2_a1_ w45_4_1_a1_ w45_4_0_a1_ (bd_sub b_71 (by decide)) (bd_sub kb_1 (by decide)) bw45_4_2_a1_ bw45_4_1_a1_ bw45_4_0_a1_ (by have h9_0 := b_71; unfold bd at h9_0; have h9_1 := bv45_6; unfold bd at h9_1; have h9_2 := bv45_8; unfold bd at h9_2; have h9_3 := bw45_4_0_a1_; unfold bd at h9_3; have h9_4 := bw45_4_1_a1_; unfold bd at h9_4; have h9_5 := bw45_4_2_a1_; unfold bd at h9_5; have h9_6 := kb_0; unfold bd at h9_6; have h9_7 := kb_1; unfold bd at h9_7; have h9_8 := kb_8; unfold bd at h9_8; have h9_9 := kb_m1; unfold bd at h9_9; omega) _ _ _ _ g9 hG_69 hl9
          have kb_1 : bd 1 1 (1 : Int32) := ⟨by decide, by decide⟩
          have hl9 := lv_sub hl [0, 1, 2, 3, 4, 5, 6, 7, 8] (by rfl : lv_pick [(8, .int x_18), (7, .int r_12), (6, .int 1), (5, .int v6_5), (4, .int v6_4), (0, .ref a0_), (1, .ref a1_), (2, .int x2_), (3, .int x3_)] [0, 1, 2, 3, 4, 5, 6, 7, 8] = [(8, .int x_18), (7, .int r_12), (6, .int 1), (5, .int v6_5), (4, .int v6_4), (0, .ref a0_), (1, .ref a1_), (2, .int x2_), (3, .int x3_)])
          have g9 := g.sub (fx' := [(6, 11, a_17, .int x_18), (7, 2, a_15, .ref a_16), (10, 0, a0_, .ref a_15), (10, 1, a0_, .ref q0_), (1, 0, q0_, .ref q1_), (1, 1, q0_, .ref q2_), (7, 1, q1_, .int y0_), (4, 6, a1_, .int y1_), (4, 14, a1_, .int y2_), (4, 4, a1_, .int y3_), (4, 3, a1_, .int y4_), (4, 2, a1_, .int w6_4_2_a1_), (4, 1, a1_, .int w6_4_1_a1_), (4, 0, a1_, .int w6_4_0_a1_)]) [0, 1, 2, 3, 4, 5, 6, 7, 8, 9, 10, 11, 12, 13] rfl
          exact loop_19 (1003) x_18 1 w6_4_2_a1_ w6_4_1_a1_ w6_4_0_a1_ bx_18 (bd_sub kb_1 (by decide)) bw6_4_2_a1_ bw6_4_1_a1_ (bd_sub bw6_4_0_a1_ (by decide)) (by have h9_0 := bw6_4_0_a1_; unfold bd at h9_0; have h9_1 := bw6_4_1_a1_; unfold bd at h9_1; have h9_2 := bw6_4_2_a1_; unfold bd at h9_2; have h9_3 := bx_18; unfold bd at h9_3; have h9_4 := kb_1; unfold bd at h9_4; have h9_5 := kb_8; unfold bd at h9_5; have h9_6 := kb_m1; unfold bd at h9_6; omega) _ _ _ _ g9 hG_14 hl9
  have kb_0 : bd 0 0 (0 : Int32) := ⟨by decide, by decide⟩
  have hl9 := lv_sub hl [0, 1, 2, 3, 4, 5] (by rfl : lv_pick [(5, .int 0), (4, .int x3_), (0, .ref a0_), (1, .ref a1_), (2, .int x2_), (3, .int x3_)] [0, 1, 2, 3, 4, 5] = [(5, .int 0), (4, .int x3_), (0, .ref a0_), (1, .ref a1_), (2, .int x2_), (3, .int x3_)])
  have g9 := g.sub (fx' := [(10, 1, a0_, .ref q0_), (1, 0, q0_, .ref q1_), (1, 1, q0_, .ref q2_), (7, 1, q1_, .int y0_), (4, 6, a1_, .int y1_), (4, 14, a1_, .int y2_), (4, 4, a1_, .int y3_), (4, 3, a1_, .int y4_), (4, 2, a1_, .int y5_), (4, 1, a1_, .int y6_), (4, 0, a1_, .int y7_)]) [0, 1, 2, 3, 4, 5, 6, 7, 8, 9, 10] rfl
  exact loop_1 (19) 0 x3_ y5_ y6_ y7_ (bd_sub kb_0 (by decide)) (bd_sub bx3_ (by decide)) by5_ by6_ by7_ (by have h9_0 := bx3_; unfold bd at h9_0; have h9_1 := by5_; unfold bd at h9_1; have h9_2 := by6_; unfold bd at h9_2; have h9_3 := by7_; unfold bd at h9_3; have h9_4 := kb_0; unfold bd at h9_4; omega) _ _ _ _ g9 hGcq1_ hl9
set_option maxHeartbeats 4000000 in
set_option maxRecDepth 100000 in
theorem r_X10_noteCall_2 (l : Launch) (dC : Nat → ClassId) (dI : Nat → Nat → Nat) (L : List Nat) (kd : Nat → Nat) (tys : List (ClassId × FieldType)) (f0 : Nat → va_E) (sz : Nat) (hWT : WT L kd tys f0) (a0_ : Nat) (ma0_ : a0_ ∈ L) (ka0_ : kd a0_ = 10) (a1_ : Nat) (ma1_ : a1_ ∈ L) (ka1_ : kd a1_ = 4) (x2_ : Int32) (bx2_ : bd 0 9 x2_) (y0_ : Int32) (by0_ : bd 0 0 y0_) (y1_ : Int32) (by1_ : bd (-1) 2147483647 y1_) (y2_ : Int32) (by2_ : bd (-1) 2147483647 y2_) (y3_ : Int32) (by3_ : bd 1 3 y3_) (y4_ : Int32) (by4_ : bd 0 9 y4_) (y5_ : Int32) (by5_ : bd (-1) 2147483647 y5_) (y6_ : Int32) (by6_ : bd (-1) 2147483647 y6_) (hfx : Fs L kd f0 [(4, 0, a1_, .int y0_), (4, 2, a1_, .int y1_), (4, 1, a1_, .int y2_), (4, 6, a1_, .int y3_), (4, 14, a1_, .int y4_), (4, 4, a1_, .int y5_), (4, 3, a1_, .int y6_)]) : Met l yX10_noteCall (.code yX10_noteCall cX10_noteCall 3 none :: lw_g) ({ frames := 0, cells := 0, slots := 0, locals := 0 }) (va_Pc [.ref a0_, .ref a1_, .int x2_] (P3 (dC, dI) L tys f0 sz)) (va_Qv (fun (f : Nat → va_E) => (∃ z0_ : Int32, bd 0 8 z0_ ∧ Fs L kd f [(4, 0, a1_, .int z0_)])) (Q3 (dC, dI) L kd tys [(4, 0), (4, 5), (4, 15), (4, 16)] [130, 131] f0 sz) (pA L sz)) 0 0 (pA L sz) := by
  refine Met.ofW (cc := cX10_noteCall) (maxL := 3) (ret := none) (by decide) rfl ?_
  intro p e s m args below meth c s₁ B hml hv
  obtain ⟨rfl, hsz, hP, hK, hD0⟩ := hv
  have hx := B.exec
  have hb := B.bytes
  have hr := B.returns
  have hts := atoms_spec (ws := (.code yX10_noteCall cX10_noteCall 3 none :: lw_g)) B.pre
  have hown : s.vm.findClass RX10 = some m.cls := findClass_of_methodNamed B.named
  have hlocks := B.notSynchronized
  subst hsz
  have g : G3 (dC, dI) L kd tys s f0 [(4, 0), (4, 5), (4, 15), (4, 16)] [130, 131] f0 s.heap [] [(4, 0, a1_, .int y0_), (4, 2, a1_, .int y1_), (4, 1, a1_, .int y2_), (4, 6, a1_, .int y3_), (4, 14, a1_, .int y4_), (4, 4, a1_, .int y5_), (4, 3, a1_, .int y6_)] := G3.start hP hD0 hWT hfx
  have hl := lv_entry ([.ref a0_, .ref a1_, .int x2_]) (n := 3) (Nat.le_of_ble_eq_true rfl)
  rw [lg_entry_eq]
  generalize (lg_sl ([.ref a0_, .ref a1_, .int x2_]) ++ List.replicate (3 - (lg_sl ([.ref a0_, .ref a1_, .int x2_])).length) Slot.unset).toArray = ls at hl ⊢
  have hl : lv_has ls 3 [(0, .ref a0_), (1, .ref a1_), (2, .int x2_)] := hl
  refine W_q (fun Q hQ => ?_)
  refine lv_aload_n hx hb dX10_noteCall_0 rfl (lv_at hl 1 rfl) ?_
  refine lv_aload_n hx hb dX10_noteCall_1 rfl (lv_at hl 0 rfl) ?_
  refine g_getr (K := 1) (C := RX10) (T := TX10) (N := 10) hx hb hts (mc_ inX10) hown hK g ma0_ ka0_ (by decide) rfl 1 (by decide) rfl (hts _ (List.mem_cons_of_mem _ t_913)) (fun _ h9 => h9) rfl dX10_noteCall_2 (fun a_1 ma_1 ka_1 g => ?_)
  refine g_geti (C := RX1) (T := TX1) (N := 18) hx hb hts (mc_ inX1) hown hK g ma_1 ka_1 (by decide) rfl 15 (by decide) rfl (hts _ (List.mem_cons_of_mem _ t_751)) (fun _ h9 => h9) rfl dX10_noteCall_5 (fun x_2 bx_2 g => ?_)
  refine g_put (C := RX4) (T := TX4) (N := 17) hx hb hts (mc_ inX4) tyX4 tyX4_ok nmX4 hown hK g ma1_ ka1_ (by decide) rfl 15 (by decide) (hts _ (List.mem_cons_of_mem _ t_875)) (fun _ h9 => h9) rfl rfl (okV_i (bdT x_2)) rfl rfl (by decide) (Or.inr (Or.inl (by decide))) (fx' := [(1, 15, a_1, .int x_2), (10, 1, a0_, .ref a_1), (4, 0, a1_, .int y0_), (4, 2, a1_, .int y1_), (4, 1, a1_, .int y2_), (4, 6, a1_, .int y3_), (4, 14, a1_, .int y4_), (4, 4, a1_, .int y5_), (4, 3, a1_, .int y6_)]) rfl dX10_noteCall_8 (fun f H locs hM_3 g => ?_)
  refine lv_aload_n hx hb dX10_noteCall_11 rfl (lv_at hl 1 rfl) ?_
  refine lv_aload_n hx hb dX10_noteCall_12 rfl (lv_at hl 0 rfl) ?_
  refine g_getk (C := RX10) (T := TX10) (N := 10) hx hb hts (mc_ inX10) hown hK g rfl 1 (by decide) rfl (hts _ (List.mem_cons_of_mem _ t_913)) (fun _ h9 => h9) 2 rfl dX10_noteCall_13 ?_
  refine g_geti (C := RX1) (T := TX1) (N := 18) hx hb hts (mc_ inX1) hown hK g ma_1 ka_1 (by decide) rfl 16 (by decide) rfl (hts _ (List.mem_cons_of_mem _ t_753)) (fun _ h9 => h9) rfl dX10_noteCall_16 (fun x_4 bx_4 g => ?_)
  refine g_put (C := RX4) (T := TX4) (N := 17) hx hb hts (mc_ inX4) tyX4 tyX4_ok nmX4 hown hK g ma1_ ka1_ (by decide) rfl 16 (by decide) (hts _ (List.mem_cons_of_mem _ t_876)) (fun _ h9 => h9) rfl rfl (okV_i (bdT x_4)) rfl rfl (by decide) (Or.inr (Or.inl (by decide))) (fx' := [(1, 16, a_1, .int x_4), (4, 15, a1_, .int x_2), (1, 15, a_1, .int x_2), (10, 1, a0_, .ref a_1), (4, 0, a1_, .int y0_), (4, 2, a1_, .int y1_), (4, 1, a1_, .int y2_), (4, 6, a1_, .int y3_), (4, 14, a1_, .int y4_), (4, 4, a1_, .int y5_), (4, 3, a1_, .int y6_)]) rfl dX10_noteCall_19 (fun f H locs hM_5 g => ?_)
  refine lv_aload_n hx hb dX10_noteCall_22 rfl (lv_at hl 1 rfl) ?_
  refine g_getr (K := 131) (C := RX4) (T := TX4) (N := 17) hx hb hts (mc_ inX4) hown hK g ma1_ ka1_ (by decide) rfl 13 (by decide) rfl (hts _ (List.mem_cons_of_mem _ t_871)) (fun _ h9 => h9) rfl dX10_noteCall_23 (fun a_6 ma_6 ka_6 g => ?_)
  refine lv_iload_n hx hb dX10_noteCall_26 rfl (lv_at hl 2 rfl) ?_
  refine lv_aload_n hx hb dX10_noteCall_27 rfl (lv_at hl 0 rfl) ?_
  refine g_getk (C := RX10) (T := TX10) (N := 10) hx hb hts (mc_ inX10) hown hK g rfl 1 (by decide) rfl (hts _ (List.mem_cons_of_mem _ t_913)) (fun _ h9 => h9) 5 rfl dX10_noteCall_28 ?_
  refine g_getk (C := RX1) (T := TX1) (N := 18) hx hb hts (mc_ inX1) hown hK g rfl 15 (by decide) rfl (hts _ (List.mem_cons_of_mem _ t_751)) (fun _ h9 => h9) 4 rfl dX10_noteCall_31 ?_
  refine lv_iconst (v := 1) hx hb dX10_noteCall_34 (by decide) ?_
  have kb_1 : bd 1 1 (1 : Int32) := ⟨by decide, by decide⟩
  refine lv_icmp_ne (tgt := 42) hx hb dX10_noteCall_35 (by decide) (fun c_7 => ?_) (fun c_7 => ?_)
  · have fc_7 := neq_f c_7
    refine lv_iconst (v := 2) hx hb dX10_noteCall_42 (by decide) ?_
    have kb_2 : bd 2 2 (2 : Int32) := ⟨by decide, by decide⟩
    refine g_iast hx hb hK g ma_6 ka_6 (by decide) rfl (in_bd bx2_ (by decide)) (bd_sub kb_2 (by decide)) (by decide) dX10_noteCall_43 (fun f H locs hM_8 g => ?_)
    refine lv_aload_n hx hb dX10_noteCall_44 rfl (lv_at hl 1 rfl) ?_
    refine g_getr (K := 130) (C := RX4) (T := TX4) (N := 17) hx hb hts (mc_ inX4) hown hK g ma1_ ka1_ (by decide) rfl 12 (by decide) rfl (hts _ (List.mem_cons_of_mem _ t_868)) (fun _ h9 => h9) rfl dX10_noteCall_45 (fun a_9 ma_9 ka_9 g => ?_)
    refine lv_iload_n hx hb dX10_noteCall_48 rfl (lv_at hl 2 rfl) ?_
    refine lv_aload_n hx hb dX10_noteCall_49 rfl (lv_at hl 0 rfl) ?_
    refine g_getk (C := RX10) (T := TX10) (N := 10) hx hb hts (mc_ inX10) hown hK g rfl 1 (by decide) rfl (hts _ (List.mem_cons_of_mem _ t_913)) (fun _ h9 => h9) 6 rfl dX10_noteCall_50 ?_
    refine g_getk (C := RX1) (T := TX1) (N := 18) hx hb hts (mc_ inX1) hown hK g rfl 16 (by decide) rfl (hts _ (List.mem_cons_of_mem _ t_753)) (fun _ h9 => h9) 3 rfl dX10_noteCall_53 ?_
    refine g_iast hx hb hK g ma_9 ka_9 (by decide) rfl (in_bd bx2_ (by decide)) (bdT x_4) (by decide) dX10_noteCall_56 (fun f H locs hM_10 g => ?_)
    refine lv_aload_n hx hb dX10_noteCall_57 rfl (lv_at hl 0 rfl) ?_
    refine g_getk (C := RX10) (T := TX10) (N := 10) hx hb hts (mc_ inX10) hown hK g rfl 1 (by decide) rfl (hts _ (List.mem_cons_of_mem _ t_913)) (fun _ h9 => h9) 6 rfl dX10_noteCall_58 ?_
    refine g_getk (C := RX1) (T := TX1) (N := 18) hx hb hts (mc_ inX1) hown hK g rfl 15 (by decide) rfl (hts _ (List.mem_cons_of_mem _ t_751)) (fun _ h9 => h9) 5 rfl dX10_noteCall_61 ?_
    refine lv_iconst (v := 2) hx hb dX10_noteCall_64 (by decide) ?_
    refine lv_icmp_ne (tgt := 82) hx hb dX10_noteCall_65 (by decide) (fun c_11 => ?_) (fun c_11 => ?_)
    · have fc_11 := neq_f c_11
      refine lv_aload_n hx hb dX10_noteCall_82 rfl (lv_at hl 0 rfl) ?_
      refine g_getk (C := RX10) (T := TX10) (N := 10) hx hb hts (mc_ inX10) hown hK g rfl 1 (by decide) rfl (hts _ (List.mem_cons_of_mem _ t_913)) (fun _ h9 => h9) 6 rfl dX10_noteCall_83 ?_
      refine g_getk (C := RX1) (T := TX1) (N := 18) hx hb hts (mc_ inX1) hown hK g rfl 15 (by decide) rfl (hts _ (List.mem_cons_of_mem _ t_751)) (fun _ h9 => h9) 5 rfl dX10_noteCall_86 ?_
      refine lv_iconst (v := 1) hx hb dX10_noteCall_89 (by decide) ?_
      refine lv_icmp_eq (tgt := 99) hx hb dX10_noteCall_90 (by decide) (fun c_12 => ?_) (fun c_12 => ?_)
      · have fc_12 := eq_f c_12
        exact absurd fc_12 fc_7
      · have fc_12 := neq_f c_12
        refine lv_aload_n hx hb dX10_noteCall_93 rfl (lv_at hl 1 rfl) ?_
        refine lv_bipush (v := 8) hx hb dX10_noteCall_94 (by decide) ?_
        have kb_8 : bd 8 8 (8 : Int32) := ⟨by decide, by decide⟩
        refine g_put (C := RX4) (T := TX4) (N := 17) hx hb hts (mc_ inX4) tyX4 tyX4_ok nmX4 hown hK g ma1_ ka1_ (by decide) rfl 0 (by decide) (hts _ (List.mem_cons_of_mem _ t_837)) (fun _ h9 => h9) rfl rfl (okV_i (bd_sub kb_8 (by decide))) rfl rfl (by decide) (Or.inr (Or.inl (by decide))) (fx' := [(4, 12, a1_, .ref a_9), (4, 13, a1_, .ref a_6), (4, 16, a1_, .int x_4), (1, 16, a_1, .int x_4), (4, 15, a1_, .int x_2), (1, 15, a_1, .int x_2), (10, 1, a0_, .ref a_1), (4, 2, a1_, .int y1_), (4, 1, a1_, .int y2_), (4, 6, a1_, .int y3_), (4, 14, a1_, .int y4_), (4, 4, a1_, .int y5_), (4, 3, a1_, .int y6_)]) rfl dX10_noteCall_96 (fun f H locs hM_13 g => ?_)
        subst hQ
        exact W.vret hx hb hr (fun t ht hW => ⟨⟨_, rfl, ⟨8, (bd_sub kb_8 (by decide)), (g.fcts [0] rfl)⟩, q3_of g hK ht hW⟩, g.2.2.1.F ht⟩) g.2.2.1.2.2 dX10_noteCall_99
    · have fc_11 := eq_f c_11
      have b_14 : bd 2 2 x_2 := eqX fc_11 (bdT x_2) kb_2 (by decide)
      refine lv_aload_n hx hb dX10_noteCall_68 rfl (lv_at hl 1 rfl) ?_
      refine lv_aload_n hx hb dX10_noteCall_69 rfl (lv_at hl 0 rfl) ?_
      refine g_getk (C := RX10) (T := TX10) (N := 10) hx hb hts (mc_ inX10) hown hK g rfl 1 (by decide) rfl (hts _ (List.mem_cons_of_mem _ t_913)) (fun _ h9 => h9) 6 rfl dX10_noteCall_70 ?_
      refine g_getl (C := RX1) (T := TX1) (N := 18) hx hb hts (mc_ inX1) hown hK g ma_1 ka_1 (by decide) rfl 17 (by decide) rfl (hts _ (List.mem_cons_of_mem _ t_755)) (fun _ h9 => h9) rfl dX10_noteCall_73 (fun x_15 g => ?_)
      refine g_put (C := RX4) (T := TX4) (N := 17) hx hb hts (mc_ inX4) tyX4 tyX4_ok nmX4 hown hK g ma1_ ka1_ (by decide) rfl 5 (by decide) (hts _ (List.mem_cons_of_mem _ t_848)) (fun _ h9 => h9) rfl rfl okV_l rfl rfl (by decide) (Or.inr (Or.inl (by decide))) (fx' := [(1, 17, a_1, .long x_15), (4, 12, a1_, .ref a_9), (4, 13, a1_, .ref a_6), (4, 16, a1_, .int x_4), (1, 16, a_1, .int x_4), (4, 15, a1_, .int x_2), (1, 15, a_1, .int x_2), (10, 1, a0_, .ref a_1), (4, 0, a1_, .int y0_), (4, 2, a1_, .int y1_), (4, 1, a1_, .int y2_), (4, 6, a1_, .int y3_), (4, 14, a1_, .int y4_), (4, 4, a1_, .int y5_), (4, 3, a1_, .int y6_)]) rfl dX10_noteCall_76 (fun f H locs hM_16 g => ?_)
      refine lv_goto (tgt := 99) hx hb dX10_noteCall_79 (by decide) ?_
      subst hQ
      exact W.vret hx hb hr (fun t ht hW => ⟨⟨_, rfl, ⟨y0_, (bd_sub by0_ (by decide)), (g.fcts [9] rfl)⟩, q3_of g hK ht hW⟩, g.2.2.1.F ht⟩) g.2.2.1.2.2 dX10_noteCall_99
  · have fc_7 := eq_f c_7
    have b_17 : bd 1 1 x_2 := eqX fc_7 (bdT x_2) kb_1 (by decide)
    refine lv_iconst (v := 1) hx hb dX10_noteCall_38 (by decide) ?_
    refine lv_goto (tgt := 43) hx hb dX10_noteCall_39 (by decide) ?_
    refine g_iast hx hb hK g ma_6 ka_6 (by decide) rfl (in_bd bx2_ (by decide)) (bd_sub kb_1 (by decide)) (by decide) dX10_noteCall_43 (fun f H locs hM_18 g => ?_)
    refine lv_aload_n hx hb dX10_noteCall_44 rfl (lv_at hl 1 rfl) ?_
    refine g_getr (K := 130) (C := RX4) (T := TX4) (N := 17) hx hb hts (mc_ inX4) hown hK g ma1_ ka1_ (by decide) rfl 12 (by decide) rfl (hts _ (List.mem_cons_of_mem _ t_868)) (fun _ h9 => h9) rfl dX10_noteCall_45 (fun a_19 ma_19 ka_19 g => ?_)
    refine lv_iload_n hx hb dX10_noteCall_48 rfl (lv_at hl 2 rfl) ?_
    refine lv_aload_n hx hb dX10_noteCall_49 rfl (lv_at hl 0 rfl) ?_
    refine g_getk (C := RX10) (T := TX10) (N := 10) hx hb hts (mc_ inX10) hown hK g rfl 1 (by decide) rfl (hts _ (List.mem_cons_of_mem _ t_913)) (fun _ h9 => h9) 6 rfl dX10_noteCall_50 ?_
    refine g_getk (C := RX1) (T := TX1) (N := 18) hx hb hts (mc_ inX1) hown hK g rfl 16 (by decide) rfl (hts _ (List.mem_cons_of_mem _ t_753)) (fun _ h9 => h9) 3 rfl dX10_noteCall_53 ?_
    refine g_iast hx hb hK g ma_19 ka_19 (by decide) rfl (in_bd bx2_ (by decide)) (bdT x_4) (by decide) dX10_noteCall_56 (fun f H locs hM_20 g => ?_)
    refine lv_aload_n hx hb dX10_noteCall_57 rfl (lv_at hl 0 rfl) ?_
    refine g_getk (C := RX10) (T := TX10) (N := 10) hx hb hts (mc_ inX10) hown hK g rfl 1 (by decide) rfl (hts _ (List.mem_cons_of_mem _ t_913)) (fun _ h9 => h9) 6 rfl dX10_noteCall_58 ?_
    refine g_getk (C := RX1) (T := TX1) (N := 18) hx hb hts (mc_ inX1) hown hK g rfl 15 (by decide) rfl (hts _ (List.mem_cons_of_mem _ t_751)) (fun _ h9 => h9) 5 rfl dX10_noteCall_61 ?_
    refine lv_iconst (v := 2) hx hb dX10_noteCall_64 (by decide) ?_
    have kb_2 : bd 2 2 (2 : Int32) := ⟨by decide, by decide⟩
    refine lv_icmp_ne (tgt := 82) hx hb dX10_noteCall_65 (by decide) (fun c_21 => ?_) (fun c_21 => ?_)
    · have fc_21 := neq_f c_21
      refine lv_aload_n hx hb dX10_noteCall_82 rfl (lv_at hl 0 rfl) ?_
      refine g_getk (C := RX10) (T := TX10) (N := 10) hx hb hts (mc_ inX10) hown hK g rfl 1 (by decide) rfl (hts _ (List.mem_cons_of_mem _ t_913)) (fun _ h9 => h9) 6 rfl dX10_noteCall_83 ?_
      refine g_getk (C := RX1) (T := TX1) (N := 18) hx hb hts (mc_ inX1) hown hK g rfl 15 (by decide) rfl (hts _ (List.mem_cons_of_mem _ t_751)) (fun _ h9 => h9) 5 rfl dX10_noteCall_86 ?_
      refine lv_iconst (v := 1) hx hb dX10_noteCall_89 (by decide) ?_
      refine lv_icmp_eq (tgt := 99) hx hb dX10_noteCall_90 (by decide) (fun c_22 => ?_) (fun c_22 => ?_)
      · have fc_22 := eq_f c_22
        subst hQ
        exact W.vret hx hb hr (fun t ht hW => ⟨⟨_, rfl, ⟨y0_, (bd_sub by0_ (by decide)), (g.fcts [7] rfl)⟩, q3_of g hK ht hW⟩, g.2.2.1.F ht⟩) g.2.2.1.2.2 dX10_noteCall_99
      · have fc_22 := neq_f c_22
        have b_23 : bd 2 0 x_2 := neX fc_22 b_17 kb_1 (by decide)
        exact bd_no b_23 (by decide)
    · have fc_21 := eq_f c_21
      have b_24 : bd 2 1 x_2 := eqX fc_21 b_17 kb_2 (by decide)
      exact bd_no b_24 (by decide)
