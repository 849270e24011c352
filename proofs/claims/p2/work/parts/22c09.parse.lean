set_option maxHeartbeats 4000000 in
set_option maxRecDepth 100000 in
theorem r_X0_closeParts (l : Launch) (dC : Nat → ClassId) (dI : Nat → Nat → Nat) (L : List Nat) (kd : Nat → Nat) (tys : List (ClassId × FieldType)) (f0 : Nat → va_E) (sz : Nat) (hWT : WT L kd tys f0) (a0_ : Nat) (ma0_ : a0_ ∈ L) (ka0_ : kd a0_ = 0) (x1_ : Int32) (q0_ : Nat) (mq0_ : q0_ ∈ L) (kq0_ : kd q0_ = 8) (q1_ : Nat) (mq1_ : q1_ ∈ L) (kq1_ : kd q1_ = 7) (y0_ : Int32) (by0_ : bd 0 0 y0_) (hfx : Fs L kd f0 [(0, 0, a0_, .ref q0_), (0, 2, a0_, .ref q1_), (8, 8, q0_, .int y0_)]) : Met l yX0_closeParts (.code yX0_closeParts cX0_closeParts 7 none :: lw_g) ({ frames := 1, cells := 0, slots := 0, locals := 23 }) (va_Pc [.ref a0_, .int x1_] (P3 (dC, dI) L tys f0 sz)) (va_Qv (fun (f : Nat → va_E) => (Fs L kd f [(8, 8, q0_, .int y0_)]) ∨ (∃ z1_ : Int32, bd 1 7 z1_ ∧ ∃ z3_ : Int32, bd 1 300 z3_ ∧ ∃ z4_ : Int32, bd 1 2000 z4_ ∧ ∃ z5_ : Int32, bd 0 299 z5_ ∧ Fs L kd f [(8, 6, q0_, .int 1201), (8, 8, q0_, .int z1_), (0, 12, a0_, .int 0), (0, 10, a0_, .int z3_), (7, 6, q1_, .int z4_), (0, 8, a0_, .int z5_)])) (Q3 (dC, dI) L kd tys [(0, 8), (0, 10), (0, 11), (0, 12), (7, 6), (8, 6), (8, 8), (8, 9)] [115, 138, 139] f0 sz) (pA L sz)) 0 0 (pA L sz) := by
  refine Met.ofW (cc := cX0_closeParts) (maxL := 7) (ret := none) (by decide) rfl ?_
  intro p e s m args below meth c s₁ B hml hv
  obtain ⟨rfl, hsz, hP, hK, hD0⟩ := hv
  have hx := B.exec
  have hb := B.bytes
  have hr := B.returns
  have hts := atoms_spec (ws := (.code yX0_closeParts cX0_closeParts 7 none :: lw_g)) B.pre
  have hown : s.vm.findClass RX0 = some m.cls := findClass_of_methodNamed B.named
  have hlocks := B.notSynchronized
  subst hsz
  have g : G3 (dC, dI) L kd tys s f0 [(0, 8), (0, 10), (0, 11), (0, 12), (7, 6), (8, 6), (8, 8), (8, 9)] [115, 138, 139] f0 s.heap [] [(0, 0, a0_, .ref q0_), (0, 2, a0_, .ref q1_), (8, 8, q0_, .int y0_)] := G3.start hP hD0 hWT hfx
  have hl := lv_entry ([.ref a0_, .int x1_]) (n := 7) (Nat.le_of_ble_eq_true rfl)
  rw [lg_entry_eq]
  generalize (lg_sl ([.ref a0_, .int x1_]) ++ List.replicate (7 - (lg_sl ([.ref a0_, .int x1_])).length) Slot.unset).toArray = ls at hl ⊢
  have hl : lv_has ls 7 [(0, .ref a0_), (1, .int x1_)] := hl
  refine W_q (fun Q hQ => ?_)
  refine lv_iconst (v := 1) hx hb dX0_closeParts_0 (by decide) ?_
  refine lv_istore_n (lv' := [(2, .int 1), (0, .ref a0_), (1, .int x1_)]) hx hb dX0_closeParts_1 rfl hl (by decide) rfl (fun ls hl => ?_)
  refine lv_iconst (v := 0) hx hb dX0_closeParts_2 (by decide) ?_
  refine lv_istore_n (lv' := [(3, .int 0), (2, .int 1), (0, .ref a0_), (1, .int x1_)]) hx hb dX0_closeParts_3 rfl hl (by decide) rfl (fun ls hl => ?_)
  have loop_1 : ∀ (n : Nat) (v4_3 : Int32) (v4_2 : Int32), bd 0 300 v4_3 → bd 0 1 v4_2 → (300 - v4_3.toInt < (n : Int)) → ∀ (f : Nat → va_E) (H : Heap) (locs : List Loc) (ls : Array Slot), G3 (dC, dI) L kd tys s f0 [(0, 8), (0, 10), (0, 11), (0, 12), (7, 6), (8, 6), (8, 8), (8, 9)] [115, 138, 139] f H locs [(0, 0, a0_, .ref q0_), (0, 2, a0_, .ref q1_), (8, 8, q0_, .int y0_)] → lv_has ls 7 [(3, .int v4_3), (2, .int v4_2), (0, .ref a0_), (1, .int x1_)] → W p l e ({ frames := 1, cells := 0, slots := 0, locals := 23 } : Room) s m [.ref a0_, .int x1_].toArray below meth c H locs 0 0 Q (F0 m 4 ls []) := by
    intro n4
    induction n4 with
    | zero =>
      intro v4_3 v4_2 bv4_3 bv4_2 hm4 f H locs ls g  hl
      exact absurd hm4 (by have h9_v4_3 := bv4_3; unfold bd at h9_v4_3; have h9_v4_2 := bv4_2; unfold bd at h9_v4_2; omega)
    | succ n4 ih4 =>
      intro v4_3 v4_2 bv4_3 bv4_2 hm4 f H locs ls g  hl
      refine lv_iload_n hx hb dX0_closeParts_4 rfl (lv_at hl 0 rfl) ?_
      refine lv_sipush (v := 300) hx hb dX0_closeParts_5 (by decide) ?_
      have kb_300 : bd 300 300 (300 : Int32) := ⟨by decide, by decide⟩
      refine lv_icmp_ge (tgt := 251) hx hb dX0_closeParts_8 (by decide) (fun c_2 => ?_) (fun c_2 => ?_)
      · have fc_2 := le_f c_2
        have b_3 : bd 300 300 v4_3 := leR fc_2 kb_300 bv4_3 (by decide)
        subst hQ
        exact W.vret hx hb hr (fun t ht hW => ⟨⟨_, rfl, Or.inl (g.fcts [2] rfl), q3_of g hK ht hW⟩, g.2.2.1.F ht⟩) g.2.2.1.2.2 dX0_closeParts_251
      · have fc_2 := nle_f c_2
        have b_4 : bd 0 299 v4_3 := ltL fc_2 bv4_3 kb_300 (by decide)
        refine lv_iload_n hx hb dX0_closeParts_11 rfl (lv_at hl 1 rfl) ?_
        have kb_0 : bd 0 0 (0 : Int32) := ⟨by decide, by decide⟩
        refine lv_if_eq (tgt := 251) hx hb dX0_closeParts_12 (by decide) (fun c_5 => ?_) (fun c_5 => ?_)
        · have fc_5 := eq_f c_5
          have b_6 : bd 0 0 v4_2 := eqX fc_5 bv4_2 kb_0 (by decide)
          subst hQ
          exact W.vret hx hb hr (fun t ht hW => ⟨⟨_, rfl, Or.inl (g.fcts [2] rfl), q3_of g hK ht hW⟩, g.2.2.1.F ht⟩) g.2.2.1.2.2 dX0_closeParts_251
        · have fc_5 := neq_f c_5
          have b_7 : bd 1 1 v4_2 := neX fc_5 bv4_2 kb_0 (by decide)
          refine lv_aload_n hx hb dX0_closeParts_15 rfl (lv_at hl 2 rfl) ?_
          refine g_geti (C := RX0) (T := TX0) (N := 14) hx hb hts (mc_ inX0) hown hK g ma0_ ka0_ (by decide) rfl 8 (by decide) rfl (hts _ (List.mem_cons_of_mem _ t_381)) (fun _ h9 => h9) rfl dX0_closeParts_16 (fun x_8 bx_8 g => ?_)
          refine lv_if_le (tgt := 251) hx hb dX0_closeParts_19 (by decide) (fun c_9 => ?_) (fun c_9 => ?_)
          · have fc_9 := le_f c_9
            have b_10 : bd 0 0 x_8 := leL fc_9 bx_8 kb_0 (by decide)
            subst hQ
            exact W.vret hx hb hr (fun t ht hW => ⟨⟨_, rfl, Or.inl (g.fcts [3] rfl), q3_of g hK ht hW⟩, g.2.2.1.F ht⟩) g.2.2.1.2.2 dX0_closeParts_251
          · have fc_9 := nle_f c_9
            have b_11 : bd 1 300 x_8 := ltR fc_9 kb_0 bx_8 (by decide)
            have join_12 : ∀ (j76_2 : Int32) (j76_5 : Int32) (j76_4 : Int32) (g76_0_3_a0_ : Nat) (f : Nat → va_E) (H : Heap) (locs : List Loc) (ls : Array Slot), bd 0 1 j76_2 → bd 0 1 j76_5 → g76_0_3_a0_ ∈ L → kd g76_0_3_a0_ = 110 → G3 (dC, dI) L kd tys s f0 [(0, 8), (0, 10), (0, 11), (0, 12), (7, 6), (8, 6), (8, 8), (8, 9)] [115, 138, 139] f H locs [(0, 3, a0_, .ref g76_0_3_a0_), (0, 8, a0_, .int x_8), (0, 0, a0_, .ref q0_), (0, 2, a0_, .ref q1_), (8, 8, q0_, .int y0_)] → lv_has ls 7 [(2, .int j76_2), (5, .int j76_5), (4, .int j76_4), (3, .int v4_3), (0, .ref a0_), (1, .int x1_)] → W p l e ({ frames := 1, cells := 0, slots := 0, locals := 23 } : Room) s m [.ref a0_, .int x1_].toArray below meth c H locs 0 0 Q (F0 m 76 ls []) := by
              intro j76_2 j76_5 j76_4 g76_0_3_a0_ f H locs ls bj76_2 bj76_5  mg76_0_3_a0_ kg76_0_3_a0_ g  hl
              refine lv_iload_n hx hb dX0_closeParts_76 rfl (lv_at hl 0 rfl) ?_
              refine lv_if_eq (tgt := 245) hx hb dX0_closeParts_77 (by decide) (fun c_13 => ?_) (fun c_13 => ?_)
              · have fc_13 := eq_f c_13
                have b_14 : bd 0 0 j76_2 := eqX fc_13 bj76_2 kb_0 (by decide)
                have kb_1 : bd 1 1 (1 : Int32) := ⟨by decide, by decide⟩
                obtain ⟨y_15, ey_15⟩ : ∃ z : Int32, z = v4_3 + 1 := ⟨_, rfl⟩
                refine lv_iinc (v := y_15) (lv' := [(3, .int y_15), (2, .int j76_2), (5, .int j76_5), (4, .int j76_4), (0, .ref a0_), (1, .int x1_)]) hx hb dX0_closeParts_245 hl (k := 3) rfl (by rw [ey_15]; rfl) (by decide) rfl (fun ls hl => ?_)
                have ty_15 := add_bd ey_15 b_4 kb_1 (by decide)
                have b_16 : bd 1 300 y_15 := add_rg ty_15 b_4 kb_1 (by decide)
                refine lv_goto (tgt := 4) hx hb dX0_closeParts_248 (by decide) ?_
                have hl9 := lv_sub hl [0, 1, 4, 5] (by rfl : lv_pick [(3, .int y_15), (2, .int j76_2), (5, .int j76_5), (4, .int j76_4), (0, .ref a0_), (1, .int x1_)] [0, 1, 4, 5] = [(3, .int y_15), (2, .int j76_2), (0, .ref a0_), (1, .int x1_)])
                have g9 := g.sub (fx' := [(0, 0, a0_, .ref q0_), (0, 2, a0_, .ref q1_), (8, 8, q0_, .int y0_)]) [2, 3, 4] rfl
                exact ih4  y_15 j76_2 (bd_sub b_16 (by decide)) (bd_sub b_14 (by decide)) (by have h9_0 := b_14; unfold bd at h9_0; have h9_1 := b_16; unfold bd at h9_1; have h9_2 := bv4_2; unfold bd at h9_2; have h9_3 := bv4_3; unfold bd at h9_3; have h9_4 := kb_0; unfold bd at h9_4; have h9_5 := kb_1; unfold bd at h9_5; have h9_6 := kb_300; unfold bd at h9_6; omega) _ _ _ _ g9  hl9
              · have fc_13 := neq_f c_13
                have b_17 : bd 1 1 j76_2 := neX fc_13 bj76_2 kb_0 (by decide)
                have join_18 : ∀ (j191_6 : Int32) (g191_7_6_q1_ : Int32) (g191_0_10_a0_ : Int32) (g191_0_8_a0_ : Int32) (f : Nat → va_E) (H : Heap) (locs : List Loc) (ls : Array Slot), bd 1 2000 g191_7_6_q1_ → bd 0 299 g191_0_10_a0_ → bd 0 299 g191_0_8_a0_ → G3 (dC, dI) L kd tys s f0 [(0, 8), (0, 10), (0, 11), (0, 12), (7, 6), (8, 6), (8, 8), (8, 9)] [115, 138, 139] f H locs [(7, 6, q1_, .int g191_7_6_q1_), (0, 10, a0_, .int g191_0_10_a0_), (0, 8, a0_, .int g191_0_8_a0_), (0, 3, a0_, .ref g76_0_3_a0_), (0, 0, a0_, .ref q0_), (0, 2, a0_, .ref q1_), (8, 8, q0_, .int y0_)] → lv_has ls 7 [(6, .int j191_6), (2, .int j76_2), (5, .int j76_5), (4, .int j76_4), (3, .int v4_3), (0, .ref a0_), (1, .int x1_)] → W p l e ({ frames := 1, cells := 0, slots := 0, locals := 23 } : Room) s m [.ref a0_, .int x1_].toArray below meth c H locs 0 0 Q (F0 m 191 ls []) := by
                  intro j191_6 g191_7_6_q1_ g191_0_10_a0_ g191_0_8_a0_ f H locs ls  bg191_7_6_q1_ bg191_0_10_a0_ bg191_0_8_a0_ g  hl
                  refine lv_iconst (v := 1) hx hb dX0_closeParts_191 (by decide) ?_
                  refine lv_iload hx hb dX0_closeParts_192 (lv_at hl 2 rfl) ?_
                  refine lv_if_eq (tgt := 202) hx hb dX0_closeParts_194 (by decide) (fun c_19 => ?_) (fun c_19 => ?_)
                  · have fc_19 := eq_f c_19
                    have b_20 : bd 0 0 j76_5 := eqX fc_19 bj76_5 kb_0 (by decide)
                    refine lv_iload hx hb dX0_closeParts_202 (lv_at hl 0 rfl) ?_
                    refine lv_aload_n hx hb dX0_closeParts_204 rfl (lv_at hl 5 rfl) ?_
                    refine g_calli (va_runV (As := []) (rest := [.int j191_6, .int 1]) ⟨hx, hb, hml, hown, hts⟩ (r_X0_takeHeight l dC dI L kd tys f H.size g.2.2.2.1 a0_ ma0_ ka0_) (cwV 0 hts (gV_ t_1199 t_1201 t_16 t_190 t_1202) rfl rfl rfl (by decide +kernel) ⟨(Nat.le_of_ble_eq_true rfl), (Nat.le_of_ble_eq_true rfl)⟩) (pre3V g hK ma0_ ka0_ (by decide) (q := (RX0, TX0, 14)) rfl) rfl rfl hl.1 rfl (lv_room (Nat.le_of_ble_eq_true rfl)) dX0_closeParts_205 ⟨(Nat.le_of_ble_eq_true rfl), (Nat.le_of_ble_eq_true rfl)⟩) g hK (by decide) (by decide) (fx' := [(7, 6, q1_, .int g191_7_6_q1_), (0, 8, a0_, .int g191_0_8_a0_), (0, 3, a0_, .ref g76_0_3_a0_), (0, 0, a0_, .ref q0_), (0, 2, a0_, .ref q1_), (8, 8, q0_, .int y0_)]) rfl (fun r_21 fr_21 H locs hp hMr_21 g => ?_)
                    obtain ⟨x_22, h_23, hF_24⟩ := hp
                    have g := g.more hF_24
                    refine va_mmax hx hb (hml.trans hl.1.symm) hown (hts _ (List.mem_cons_of_mem _ t_1194)) (hts _ (List.mem_cons_of_mem _ t_1041)) (hts _ (List.mem_cons_of_mem _ t_204)) (hts _ (List.mem_cons_of_mem _ t_1042)) (Nat.le_of_ble_eq_true rfl) (Nat.le_of_ble_eq_true rfl) (Nat.le_of_ble_eq_true rfl) (Nat.le_of_ble_eq_true rfl) dX0_closeParts_208 ?_
                    refine lv_topi (fun y_25 ey_25 => ?_)
                    have ty_25 : y_25.toInt = max j191_6.toInt r_21.toInt := by rw [ey_25]; exact mmax_ok _ _
                    have b_26 : bd (-2147483648) 2147483647 y_25 := max_rg ty_25 (bdT j191_6) (bdT r_21) (by decide)
                    have kb_1 : bd 1 1 (1 : Int32) := ⟨by decide, by decide⟩
                    refine lv_iadd hx hb dX0_closeParts_211 ?_
                    refine lv_topi (fun y_27 ey_27 => ?_)
                    refine lv_istore (lv' := [(6, .int y_27), (2, .int j76_2), (5, .int j76_5), (4, .int j76_4), (3, .int v4_3), (0, .ref a0_), (1, .int x1_)]) hx hb dX0_closeParts_212 hl (by decide) rfl (fun ls hl => ?_)
                    refine lv_aload_n hx hb dX0_closeParts_214 rfl (lv_at hl 5 rfl) ?_
                    refine lv_iload hx hb dX0_closeParts_215 (lv_at hl 0 rfl) ?_
                    refine g_callv (va_runV (As := [.int y_27]) (rest := []) ⟨hx, hb, hml, hown, hts⟩ (r_X0_addWhole l dC dI L kd tys fr_21 H.size g.2.2.2.1 a0_ ma0_ ka0_ y_27) (cwV 1 hts (gV_ t_1211 t_1213 t_17 t_190 t_1214) rfl rfl rfl (by decide +kernel) ⟨(Nat.le_of_ble_eq_true rfl), (Nat.le_of_ble_eq_true rfl)⟩) (pre3V g hK ma0_ ka0_ (by decide) (q := (RX0, TX0, 14)) rfl) rfl rfl hl.1 rfl (lv_room (Nat.le_of_ble_eq_true rfl)) dX0_closeParts_217 ⟨(Nat.le_of_ble_eq_true rfl), (Nat.le_of_ble_eq_true rfl)⟩) g hK (by decide) (by decide) (fx' := [(7, 6, q1_, .int g191_7_6_q1_), (0, 8, a0_, .int g191_0_8_a0_), (0, 3, a0_, .ref g76_0_3_a0_), (0, 0, a0_, .ref q0_), (0, 2, a0_, .ref q1_), (8, 8, q0_, .int y0_)]) rfl (fun fr_28 H locs hp hMr_28 g => ?_)
                    obtain ⟨x_29, h_30, hF_31⟩ := hp
                    have g := g.more hF_31
                    refine lv_iload hx hb dX0_closeParts_220 (lv_at hl 0 rfl) ?_
                    refine lv_bipush (v := 12) hx hb dX0_closeParts_222 (by decide) ?_
                    have kb_12 : bd 12 12 (12 : Int32) := ⟨by decide, by decide⟩
                    refine lv_icmp_le (tgt := 245) hx hb dX0_closeParts_224 (by decide) (fun c_32 => ?_) (fun c_32 => ?_)
                    · have fc_32 := le_f c_32
                      have b_33 : bd (-2147483648) 12 y_27 := leL fc_32 (bdT y_27) kb_12 (by decide)
                      obtain ⟨y_34, ey_34⟩ : ∃ z : Int32, z = v4_3 + 1 := ⟨_, rfl⟩
                      refine lv_iinc (v := y_34) (lv' := [(3, .int y_34), (6, .int y_27), (2, .int j76_2), (5, .int j76_5), (4, .int j76_4), (0, .ref a0_), (1, .int x1_)]) hx hb dX0_closeParts_245 hl (k := 4) rfl (by rw [ey_34]; rfl) (by decide) rfl (fun ls hl => ?_)
                      have ty_34 := add_bd ey_34 b_4 kb_1 (by decide)
                      have b_35 : bd 1 300 y_34 := add_rg ty_34 b_4 kb_1 (by decide)
                      refine lv_goto (tgt := 4) hx hb dX0_closeParts_248 (by decide) ?_
                      have hl9 := lv_sub hl [0, 2, 5, 6] (by rfl : lv_pick [(3, .int y_34), (6, .int y_27), (2, .int j76_2), (5, .int j76_5), (4, .int j76_4), (0, .ref a0_), (1, .int x1_)] [0, 2, 5, 6] = [(3, .int y_34), (2, .int j76_2), (0, .ref a0_), (1, .int x1_)])
                      have g9 := g.sub (fx' := [(0, 0, a0_, .ref q0_), (0, 2, a0_, .ref q1_), (8, 8, q0_, .int y0_)]) [5, 6, 7] rfl
                      exact ih4  y_34 j76_2 (bd_sub b_35 (by decide)) (bd_sub b_17 (by decide)) (by have h9_0 := b_17; unfold bd at h9_0; have h9_1 := b_35; unfold bd at h9_1; have h9_2 := bv4_2; unfold bd at h9_2; have h9_3 := bv4_3; unfold bd at h9_3; have h9_4 := kb_0; unfold bd at h9_4; have h9_5 := kb_1; unfold bd at h9_5; have h9_6 := kb_12; unfold bd at h9_6; have h9_7 := kb_300; unfold bd at h9_7; omega) _ _ _ _ g9  hl9
                    · have fc_32 := nle_f c_32
                      have b_36 : bd 13 2147483647 y_27 := ltR fc_32 kb_12 (bdT y_27) (by decide)
                      refine lv_aload_n hx hb dX0_closeParts_227 rfl (lv_at hl 5 rfl) ?_
                      refine g_getk (C := RX0) (T := TX0) (N := 14) hx hb hts (mc_ inX0) hown hK g rfl 0 (by decide) rfl (hts _ (List.mem_cons_of_mem _ t_373)) (fun _ h9 => h9) 5 rfl dX0_closeParts_228 ?_
                      refine lv_bipush (v := 7) hx hb dX0_closeParts_231 (by decide) ?_
                      refine lv_aload_n hx hb dX0_closeParts_233 rfl (lv_at hl 5 rfl) ?_
                      refine g_getr (K := 111) (C := RX0) (T := TX0) (N := 14) hx hb hts (mc_ inX0) hown hK g ma0_ ka0_ (by decide) rfl 4 (by decide) rfl (hts _ (List.mem_cons_of_mem _ t_377)) (fun _ h9 => h9) rfl dX0_closeParts_234 (fun a_37 ma_37 ka_37 g => ?_)
                      refine lv_aload_n hx hb dX0_closeParts_237 rfl (lv_at hl 5 rfl) ?_
                      refine g_getk (C := RX0) (T := TX0) (N := 14) hx hb hts (mc_ inX0) hown hK g rfl 8 (by decide) rfl (hts _ (List.mem_cons_of_mem _ t_381)) (fun _ h9 => h9) 4 rfl dX0_closeParts_238 ?_
                      refine g_iald hx hb hK g ma_37 ka_37 (by decide) rfl (in_bd bg191_0_8_a0_ (by decide)) dX0_closeParts_241 (fun x_38 bx_38 cx_38 => ?_)
                      have kb_7 : bd 7 7 (7 : Int32) := ⟨by decide, by decide⟩
                      refine g_callv (va_runV (As := [.int 7, .int x_38]) (rest := []) ⟨hx, hb, hml, hown, hts⟩ (r_X8_fail l dC dI L kd tys fr_28 H.size g.2.2.2.1 q0_ mq0_ kq0_ 7 (bd_sub kb_7 (by decide)) x_38 y0_ by0_ (g.fcts [8] rfl)) (cwV 2 hts (gV_ t_1215 t_1107 t_1108 t_184 t_1109) rfl rfl rfl (by decide +kernel) ⟨(Nat.le_of_ble_eq_true rfl), (Nat.le_of_ble_eq_true rfl)⟩) (pre3V g hK mq0_ kq0_ (by decide) (q := (RX8, TX8, 10)) rfl) rfl rfl hl.1 rfl (lv_room (Nat.le_of_ble_eq_true rfl)) dX0_closeParts_242 ⟨(Nat.le_of_ble_eq_true rfl), (Nat.le_of_ble_eq_true rfl)⟩) g hK (by decide) (by decide) (fx' := [(0, 4, a0_, .ref a_37), (0, 12, a0_, .int 0), (0, 10, a0_, .int x_29), (7, 6, q1_, .int g191_7_6_q1_), (0, 8, a0_, .int g191_0_8_a0_), (0, 3, a0_, .ref g76_0_3_a0_), (0, 0, a0_, .ref q0_), (0, 2, a0_, .ref q1_)]) rfl (fun fr_39 H locs hp hMr_39 g => ?_)
                      obtain ⟨x_40, h_41, hF_42⟩ := hp
                      have g := g.more hF_42
                      obtain ⟨y_43, ey_43⟩ : ∃ z : Int32, z = v4_3 + 1 := ⟨_, rfl⟩
                      refine lv_iinc (v := y_43) (lv' := [(3, .int y_43), (6, .int y_27), (2, .int j76_2), (5, .int j76_5), (4, .int j76_4), (0, .ref a0_), (1, .int x1_)]) hx hb dX0_closeParts_245 hl (k := 4) rfl (by rw [ey_43]; rfl) (by decide) rfl (fun ls hl => ?_)
                      have ty_43 := add_bd ey_43 b_4 kb_1 (by decide)
                      have b_44 : bd 1 300 y_43 := add_rg ty_43 b_4 kb_1 (by decide)
                      refine lv_goto (tgt := 4) hx hb dX0_closeParts_248 (by decide) ?_
                      have loop_45 : ∀ (n : Nat) (v4_3 : Int32) (v4_6 : Int32) (v4_2 : Int32) (v4_5 : Int32) (v4_4 : Int32) (w4_0_10_a0_ : Int32) (w4_7_6_q1_ : Int32) (w4_0_8_a0_ : Int32), bd 1 300 v4_3 → bd 0 1 v4_2 → bd 0 1 v4_5 → bd 1 300 w4_0_10_a0_ → bd 1 2000 w4_7_6_q1_ → bd 0 299 w4_0_8_a0_ → (300 - v4_3.toInt < (n : Int)) → ∀ (f : Nat → va_E) (H : Heap) (locs : List Loc) (ls : Array Slot), G3 (dC, dI) L kd tys s f0 [(0, 8), (0, 10), (0, 11), (0, 12), (7, 6), (8, 6), (8, 8), (8, 9)] [115, 138, 139] f H locs [(8, 6, q0_, .int 1201), (8, 8, q0_, .int x_40), (0, 4, a0_, .ref a_37), (0, 12, a0_, .int 0), (0, 10, a0_, .int w4_0_10_a0_), (7, 6, q1_, .int w4_7_6_q1_), (0, 8, a0_, .int w4_0_8_a0_), (0, 3, a0_, .ref g76_0_3_a0_), (0, 0, a0_, .ref q0_), (0, 2, a0_, .ref q1_)] → lv_has ls 7 [(3, .int v4_3), (6, .int v4_6), (2, .int v4_2), (5, .int v4_5), (4, .int v4_4), (0, .ref a0_), (1, .int x1_)] → W p l e ({ frames := 1, cells := 0, slots := 0, locals := 23 } : Room) s m [.ref a0_, .int x1_].toArray below meth c H locs 0 0 Q (F0 m 4 ls []) := by
                        intro n4
                        induction n4 with
                        | zero =>
                          intro v4_3 v4_6 v4_2 v4_5 v4_4 w4_0_10_a0_ w4_7_6_q1_ w4_0_8_a0_ bv4_3  bv4_2 bv4_5  bw4_0_10_a0_ bw4_7_6_q1_ bw4_0_8_a0_ hm4 f H locs ls g  hl
                          exact absurd hm4 (by have h9_v4_3 := bv4_3; unfold bd at h9_v4_3; have h9_v4_6 := bdT v4_6; unfold bd at h9_v4_6; have h9_v4_2 := bv4_2; unfold bd at h9_v4_2; have h9_v4_5 := bv4_5; unfold bd at h9_v4_5; have h9_v4_4 := bdT v4_4; unfold bd at h9_v4_4; have h9_w4_0_10_a0_ := bw4_0_10_a0_; unfold bd at h9_w4_0_10_a0_; have h9_w4_7_6_q1_ := bw4_7_6_q1_; unfold bd at h9_w4_7_6_q1_; have h9_w4_0_8_a0_ := bw4_0_8_a0_; unfold bd at h9_w4_0_8_a0_; omega)
                        | succ n4 ih4 =>
                          intro v4_3 v4_6 v4_2 v4_5 v4_4 w4_0_10_a0_ w4_7_6_q1_ w4_0_8_a0_ bv4_3  bv4_2 bv4_5  bw4_0_10_a0_ bw4_7_6_q1_ bw4_0_8_a0_ hm4 f H locs ls g  hl
                          refine lv_iload_n hx hb dX0_closeParts_4 rfl (lv_at hl 0 rfl) ?_
                          refine lv_sipush (v := 300) hx hb dX0_closeParts_5 (by decide) ?_
                          refine lv_icmp_ge (tgt := 251) hx hb dX0_closeParts_8 (by decide) (fun c_46 => ?_) (fun c_46 => ?_)
                          · have fc_46 := le_f c_46
                            have b_47 : bd 300 300 v4_3 := leR fc_46 kb_300 bv4_3 (by decide)
                            subst hQ
                            exact W.vret hx hb hr (fun t ht hW => ⟨⟨_, rfl, Or.inr (⟨x_40, h_41, w4_0_10_a0_, bw4_0_10_a0_, w4_7_6_q1_, bw4_7_6_q1_, w4_0_8_a0_, bw4_0_8_a0_, (g.fcts [0, 1, 3, 4, 5, 6] rfl)⟩), q3_of g hK ht hW⟩, g.2.2.1.F ht⟩) g.2.2.1.2.2 dX0_closeParts_251
                          · have fc_46 := nle_f c_46
                            have b_48 : bd 1 299 v4_3 := ltL fc_46 bv4_3 kb_300 (by decide)
                            refine lv_iload_n hx hb dX0_closeParts_11 rfl (lv_at hl 2 rfl) ?_
                            refine lv_if_eq (tgt := 251) hx hb dX0_closeParts_12 (by decide) (fun c_49 => ?_) (fun c_49 => ?_)
                            · have fc_49 := eq_f c_49
                              exact absurd fc_49 fc_5
                            · have fc_49 := neq_f c_49
                              have b_50 : bd 1 1 v4_2 := neX fc_49 bv4_2 kb_0 (by decide)
                              refine lv_aload_n hx hb dX0_closeParts_15 rfl (lv_at hl 5 rfl) ?_
                              refine g_getk (C := RX0) (T := TX0) (N := 14) hx hb hts (mc_ inX0) hown hK g rfl 8 (by decide) rfl (hts _ (List.mem_cons_of_mem _ t_381)) (fun _ h9 => h9) 6 rfl dX0_closeParts_16 ?_
                              refine lv_if_le (tgt := 251) hx hb dX0_closeParts_19 (by decide) (fun c_51 => ?_) (fun c_51 => ?_)
                              · have fc_51 := le_f c_51
                                have b_52 : bd 0 0 w4_0_8_a0_ := leL fc_51 bw4_0_8_a0_ kb_0 (by decide)
                                subst hQ
                                exact W.vret hx hb hr (fun t ht hW => ⟨⟨_, rfl, Or.inr (⟨x_40, h_41, w4_0_10_a0_, bw4_0_10_a0_, w4_7_6_q1_, bw4_7_6_q1_, w4_0_8_a0_, (bd_sub b_52 (by decide)), (g.fcts [0, 1, 3, 4, 5, 6] rfl)⟩), q3_of g hK ht hW⟩, g.2.2.1.F ht⟩) g.2.2.1.2.2 dX0_closeParts_251
                              · have fc_51 := nle_f c_51
                                have b_53 : bd 1 299 w4_0_8_a0_ := ltR fc_51 kb_0 bw4_0_8_a0_ (by decide)
                                refine lv_aload_n hx hb dX0_closeParts_22 rfl (lv_at hl 5 rfl) ?_
                                refine g_getk (C := RX0) (T := TX0) (N := 14) hx hb hts (mc_ inX0) hown hK g rfl 3 (by decide) rfl (hts _ (List.mem_cons_of_mem _ t_376)) (fun _ h9 => h9) 7 rfl dX0_closeParts_23 ?_
                                refine lv_aload_n hx hb dX0_closeParts_26 rfl (lv_at hl 5 rfl) ?_
                                refine g_getk (C := RX0) (T := TX0) (N := 14) hx hb hts (mc_ inX0) hown hK g rfl 8 (by decide) rfl (hts _ (List.mem_cons_of_mem _ t_381)) (fun _ h9 => h9) 6 rfl dX0_closeParts_27 ?_
                                refine lv_iconst (v := 1) hx hb dX0_closeParts_30 (by decide) ?_
                                refine lv_isub hx hb dX0_closeParts_31 ?_
                                refine lv_topi (fun y_54 ey_54 => ?_)
                                have ty_54 := sub_bd ey_54 b_53 kb_1 (by decide)
                                have b_55 : bd 0 298 y_54 := sub_rg ty_54 b_53 kb_1 (by decide)
                                refine g_iald hx hb hK g mg76_0_3_a0_ kg76_0_3_a0_ (by decide) rfl (in_bd b_55 (by decide)) dX0_closeParts_32 (fun x_56 bx_56 cx_56 => ?_)
                                refine lv_istore (lv' := [(4, .int x_56), (3, .int v4_3), (6, .int v4_6), (2, .int v4_2), (5, .int v4_5), (0, .ref a0_), (1, .int x1_)]) hx hb dX0_closeParts_33 hl (by decide) rfl (fun ls hl => ?_)
                                refine lv_iload hx hb dX0_closeParts_35 (lv_at hl 0 rfl) ?_
                                refine lv_bipush (v := 6) hx hb dX0_closeParts_37 (by decide) ?_
                                have kb_6 : bd 6 6 (6 : Int32) := ⟨by decide, by decide⟩
                                refine lv_icmp_eq (tgt := 49) hx hb dX0_closeParts_39 (by decide) (fun c_57 => ?_) (fun c_57 => ?_)
                                · have fc_57 := eq_f c_57
                                  have b_58 : bd 6 6 x_56 := eqX fc_57 (bdT x_56) kb_6 (by decide)
                                  refine lv_iconst (v := 1) hx hb dX0_closeParts_49 (by decide) ?_
                                  refine lv_goto (tgt := 54) hx hb dX0_closeParts_50 (by decide) ?_
                                  refine lv_istore (lv' := [(5, .int 1), (4, .int x_56), (3, .int v4_3), (6, .int v4_6), (2, .int v4_2), (0, .ref a0_), (1, .int x1_)]) hx hb dX0_closeParts_54 hl (by decide) rfl (fun ls hl => ?_)
                                  refine lv_iload hx hb dX0_closeParts_56 (lv_at hl 0 rfl) ?_
                                  refine lv_if_ne (tgt := 70) hx hb dX0_closeParts_58 (by decide) (fun c_ => ?_) (fun c_ => absurd c_ (by decide))
                                  refine lv_iconst (v := 1) hx hb dX0_closeParts_70 (by decide) ?_
                                  refine lv_goto (tgt := 75) hx hb dX0_closeParts_71 (by decide) ?_
                                  refine lv_istore_n (lv' := [(2, .int 1), (5, .int 1), (4, .int x_56), (3, .int v4_3), (6, .int v4_6), (0, .ref a0_), (1, .int x1_)]) hx hb dX0_closeParts_75 rfl hl (by decide) rfl (fun ls hl => ?_)
                                  refine lv_iload_n hx hb dX0_closeParts_76 rfl (lv_at hl 0 rfl) ?_
                                  refine lv_if_eq (tgt := 245) hx hb dX0_closeParts_77 (by decide) (fun c_ => absurd c_ (by decide)) (fun c_ => ?_)
                                  refine lv_aload_n hx hb dX0_closeParts_80 rfl (lv_at hl 5 rfl) ?_
                                  refine lv_dup hx hb dX0_closeParts_81 rfl ?_
                                  refine g_getk (C := RX0) (T := TX0) (N := 14) hx hb hts (mc_ inX0) hown hK g rfl 8 (by decide) rfl (hts _ (List.mem_cons_of_mem _ t_381)) (fun _ h9 => h9) 6 rfl dX0_closeParts_82 ?_
                                  refine lv_iconst (v := 1) hx hb dX0_closeParts_85 (by decide) ?_
                                  refine lv_isub hx hb dX0_closeParts_86 ?_
                                  refine lv_topi (fun y_59 ey_59 => ?_)
                                  obtain rfl : y_54 = y_59 := ey_54.trans ey_59.symm
                                  refine g_put (C := RX0) (T := TX0) (N := 14) hx hb hts (mc_ inX0) tyX0 tyX0_ok nmX0 hown hK g ma0_ ka0_ (by decide) rfl 8 (by decide) (hts _ (List.mem_cons_of_mem _ t_381)) (fun _ h9 => h9) rfl rfl (okV_i (bd_sub b_55 (by decide))) rfl rfl (by decide) (Or.inr (Or.inl (by decide))) (fx' := [(8, 6, q0_, .int 1201), (8, 8, q0_, .int x_40), (0, 4, a0_, .ref a_37), (0, 12, a0_, .int 0), (0, 10, a0_, .int w4_0_10_a0_), (7, 6, q1_, .int w4_7_6_q1_), (0, 3, a0_, .ref g76_0_3_a0_), (0, 0, a0_, .ref q0_), (0, 2, a0_, .ref q1_)]) rfl dX0_closeParts_87 (fun f H locs hM_60 g => ?_)
                                  refine lv_aload_n hx hb dX0_closeParts_90 rfl (lv_at hl 5 rfl) ?_
                                  refine g_calli (va_runV (As := []) (rest := []) ⟨hx, hb, hml, hown, hts⟩ (r_X0_takeHeight l dC dI L kd tys f H.size g.2.2.2.1 a0_ ma0_ ka0_) (cwV 0 hts (gV_ t_1199 t_1201 t_16 t_190 t_1202) rfl rfl rfl (by decide +kernel) ⟨(Nat.le_of_ble_eq_true rfl), (Nat.le_of_ble_eq_true rfl)⟩) (pre3V g hK ma0_ ka0_ (by decide) (q := (RX0, TX0, 14)) rfl) rfl rfl hl.1 rfl (lv_room (Nat.le_of_ble_eq_true rfl)) dX0_closeParts_91 ⟨(Nat.le_of_ble_eq_true rfl), (Nat.le_of_ble_eq_true rfl)⟩) g hK (by decide) (by decide) (fx' := [(0, 8, a0_, .int y_54), (8, 6, q0_, .int 1201), (8, 8, q0_, .int x_40), (0, 4, a0_, .ref a_37), (0, 12, a0_, .int 0), (7, 6, q1_, .int w4_7_6_q1_), (0, 3, a0_, .ref g76_0_3_a0_), (0, 0, a0_, .ref q0_), (0, 2, a0_, .ref q1_)]) rfl (fun r_61 fr_61 H locs hp hMr_61 g => ?_)
                                  obtain ⟨x_62, h_63, hF_64⟩ := hp
                                  have g := g.more hF_64
                                  refine lv_istore (lv' := [(6, .int r_61), (2, .int 1), (5, .int 1), (4, .int x_56), (3, .int v4_3), (0, .ref a0_), (1, .int x1_)]) hx hb dX0_closeParts_94 hl (by decide) rfl (fun ls hl => ?_)
                                  refine lv_iload hx hb dX0_closeParts_96 (lv_at hl 2 rfl) ?_
                                  refine lv_if_eq (tgt := 136) hx hb dX0_closeParts_98 (by decide) (fun c_ => absurd c_ (by decide)) (fun c_ => ?_)
                                  refine lv_aload_n hx hb dX0_closeParts_101 rfl (lv_at hl 5 rfl) ?_
                                  refine lv_dup hx hb dX0_closeParts_102 rfl ?_
                                  refine g_geti (C := RX0) (T := TX0) (N := 14) hx hb hts (mc_ inX0) hown hK g ma0_ ka0_ (by decide) rfl 11 (by decide) rfl (hts _ (List.mem_cons_of_mem _ t_384)) (fun _ h9 => h9) rfl dX0_closeParts_103 (fun x_65 bx_65 g => ?_)
                                  refine lv_iconst (v := 1) hx hb dX0_closeParts_106 (by decide) ?_
                                  refine lv_isub hx hb dX0_closeParts_107 ?_
                                  refine lv_topi (fun y_66 ey_66 => ?_)
                                  refine g_put (C := RX0) (T := TX0) (N := 14) hx hb hts (mc_ inX0) tyX0 tyX0_ok nmX0 hown hK g ma0_ ka0_ (by decide) rfl 11 (by decide) (hts _ (List.mem_cons_of_mem _ t_384)) (fun _ h9 => h9) rfl rfl (okV_i (bdT y_66)) rfl rfl (by decide) (Or.inr (Or.inl (by decide))) (fx' := [(0, 10, a0_, .int x_62), (0, 8, a0_, .int y_54), (8, 6, q0_, .int 1201), (8, 8, q0_, .int x_40), (0, 4, a0_, .ref a_37), (0, 12, a0_, .int 0), (7, 6, q1_, .int w4_7_6_q1_), (0, 3, a0_, .ref g76_0_3_a0_), (0, 0, a0_, .ref q0_), (0, 2, a0_, .ref q1_)]) rfl dX0_closeParts_108 (fun f H locs hM_67 g => ?_)
                                  refine lv_aload_n hx hb dX0_closeParts_111 rfl (lv_at hl 5 rfl) ?_
                                  refine g_getk (C := RX0) (T := TX0) (N := 14) hx hb hts (mc_ inX0) hown hK g rfl 2 (by decide) rfl (hts _ (List.mem_cons_of_mem _ t_375)) (fun _ h9 => h9) 10 rfl dX0_closeParts_112 ?_
                                  refine lv_iload hx hb dX0_closeParts_115 (lv_at hl 3 rfl) ?_
                                  refine lv_bipush (v := 6) hx hb dX0_closeParts_117 (by decide) ?_
                                  refine lv_icmp_ne (tgt := 127) hx hb dX0_closeParts_119 (by decide) (fun c_68 => ?_) (fun c_68 => ?_)
                                  · have fc_68 := neq_f c_68
                                    have b_69 : bd 7 5 x_56 := neX fc_68 b_58 kb_6 (by decide)
                                    exact bd_no b_69 (by decide)
                                  · have fc_68 := eq_f c_68
                                    refine lv_bipush (v := 6) hx hb dX0_closeParts_122 (by decide) ?_
                                    refine lv_goto (tgt := 129) hx hb dX0_closeParts_124 (by decide) ?_
                                    refine lv_iconst (v := 0) hx hb dX0_closeParts_129 (by decide) ?_
                                    refine g_callv (va_runV (As := [.int 6, .int 0]) (rest := []) ⟨hx, hb, hml, hown, hts⟩ (r_X7_emit l dC dI L kd tys f H.size g.2.2.2.1 q1_ mq1_ kq1_ 6 0) (cwV 2 hts (gV_ t_1203 t_1204 t_1205 t_191 t_1206) rfl rfl rfl (by decide +kernel) ⟨(Nat.le_of_ble_eq_true rfl), (Nat.le_of_ble_eq_true rfl)⟩) (pre3V g hK mq1_ kq1_ (by decide) (q := (RX7, TX7, 19)) rfl) rfl rfl hl.1 rfl (lv_room (Nat.le_of_ble_eq_true rfl)) dX0_closeParts_130 ⟨(Nat.le_of_ble_eq_true rfl), (Nat.le_of_ble_eq_true rfl)⟩) g hK (by decide) (by decide) (fx' := [(0, 11, a0_, .int y_66), (0, 10, a0_, .int x_62), (0, 8, a0_, .int y_54), (8, 6, q0_, .int 1201), (8, 8, q0_, .int x_40), (0, 4, a0_, .ref a_37), (0, 12, a0_, .int 0), (0, 3, a0_, .ref g76_0_3_a0_), (0, 0, a0_, .ref q0_), (0, 2, a0_, .ref q1_)]) rfl (fun fr_70 H locs hp hMr_70 g => ?_)
                                    obtain ⟨x_71, h_72, hF_73⟩ := hp
                                    have g := g.more hF_73
                                    refine lv_goto (tgt := 191) hx hb dX0_closeParts_133 (by decide) ?_
                                    refine lv_iconst (v := 1) hx hb dX0_closeParts_191 (by decide) ?_
                                    refine lv_iload hx hb dX0_closeParts_192 (lv_at hl 2 rfl) ?_
                                    refine lv_if_eq (tgt := 202) hx hb dX0_closeParts_194 (by decide) (fun c_ => absurd c_ (by decide)) (fun c_ => ?_)
                                    refine lv_iload hx hb dX0_closeParts_197 (lv_at hl 0 rfl) ?_
                                    refine lv_goto (tgt := 211) hx hb dX0_closeParts_199 (by decide) ?_
                                    refine lv_iadd hx hb dX0_closeParts_211 ?_
                                    refine lv_topi (fun y_74 ey_74 => ?_)
                                    refine lv_istore (lv' := [(6, .int y_74), (2, .int 1), (5, .int 1), (4, .int x_56), (3, .int v4_3), (0, .ref a0_), (1, .int x1_)]) hx hb dX0_closeParts_212 hl (by decide) rfl (fun ls hl => ?_)
                                    refine lv_aload_n hx hb dX0_closeParts_214 rfl (lv_at hl 5 rfl) ?_
                                    refine lv_iload hx hb dX0_closeParts_215 (lv_at hl 0 rfl) ?_
                                    refine g_callv (va_runV (As := [.int y_74]) (rest := []) ⟨hx, hb, hml, hown, hts⟩ (r_X0_addWhole l dC dI L kd tys fr_70 H.size g.2.2.2.1 a0_ ma0_ ka0_ y_74) (cwV 1 hts (gV_ t_1211 t_1213 t_17 t_190 t_1214) rfl rfl rfl (by decide +kernel) ⟨(Nat.le_of_ble_eq_true rfl), (Nat.le_of_ble_eq_true rfl)⟩) (pre3V g hK ma0_ ka0_ (by decide) (q := (RX0, TX0, 14)) rfl) rfl rfl hl.1 rfl (lv_room (Nat.le_of_ble_eq_true rfl)) dX0_closeParts_217 ⟨(Nat.le_of_ble_eq_true rfl), (Nat.le_of_ble_eq_true rfl)⟩) g hK (by decide) (by decide) (fx' := [(7, 6, q1_, .int x_71), (0, 11, a0_, .int y_66), (0, 8, a0_, .int y_54), (8, 6, q0_, .int 1201), (8, 8, q0_, .int x_40), (0, 4, a0_, .ref a_37), (0, 3, a0_, .ref g76_0_3_a0_), (0, 0, a0_, .ref q0_), (0, 2, a0_, .ref q1_)]) rfl (fun fr_75 H locs hp hMr_75 g => ?_)
                                    obtain ⟨x_76, h_77, hF_78⟩ := hp
                                    have g := g.more hF_78
                                    refine lv_iload hx hb dX0_closeParts_220 (lv_at hl 0 rfl) ?_
                                    refine lv_bipush (v := 12) hx hb dX0_closeParts_222 (by decide) ?_
                                    refine lv_icmp_le (tgt := 245) hx hb dX0_closeParts_224 (by decide) (fun c_79 => ?_) (fun c_79 => ?_)
                                    · have fc_79 := le_f c_79
                                      have b_80 : bd (-2147483648) 12 y_74 := leL fc_79 (bdT y_74) kb_12 (by decide)
                                      obtain ⟨y_81, ey_81⟩ : ∃ z : Int32, z = v4_3 + 1 := ⟨_, rfl⟩
                                      refine lv_iinc (v := y_81) (lv' := [(3, .int y_81), (6, .int y_74), (2, .int 1), (5, .int 1), (4, .int x_56), (0, .ref a0_), (1, .int x1_)]) hx hb dX0_closeParts_245 hl (k := 4) rfl (by rw [ey_81]; rfl) (by decide) rfl (fun ls hl => ?_)
                                      have ty_81 := add_bd ey_81 b_48 kb_1 (by decide)
                                      have b_82 : bd 2 300 y_81 := add_rg ty_81 b_48 kb_1 (by decide)
                                      refine lv_goto (tgt := 4) hx hb dX0_closeParts_248 (by decide) ?_
                                      have hl9 := lv_sub hl [0, 1, 2, 3, 4, 5, 6] (by rfl : lv_pick [(3, .int y_81), (6, .int y_74), (2, .int 1), (5, .int 1), (4, .int x_56), (0, .ref a0_), (1, .int x1_)] [0, 1, 2, 3, 4, 5, 6] = [(3, .int y_81), (6, .int y_74), (2, .int 1), (5, .int 1), (4, .int x_56), (0, .ref a0_), (1, .int x1_)])
                                      have g9 := g.sub (fx' := [(8, 6, q0_, .int 1201), (8, 8, q0_, .int x_40), (0, 4, a0_, .ref a_37), (0, 12, a0_, .int 0), (0, 10, a0_, .int x_76), (7, 6, q1_, .int x_71), (0, 8, a0_, .int y_54), (0, 3, a0_, .ref g76_0_3_a0_), (0, 0, a0_, .ref q0_), (0, 2, a0_, .ref q1_)]) [5, 6, 7, 0, 1, 2, 4, 8, 9, 10] rfl
                                      exact ih4  y_81 y_74 1 1 x_56 x_76 x_71 y_54 (bd_sub b_82 (by decide)) (bd_sub kb_1 (by decide)) (bd_sub kb_1 (by decide)) h_77 h_72 (bd_sub b_55 (by decide)) (by have h9_0 := b_55; unfold bd at h9_0; have h9_1 := b_58; unfold bd at h9_1; have h9_2 := b_80; unfold bd at h9_2; have h9_3 := b_82; unfold bd at h9_3; have h9_4 := bdT v4_4; unfold bd at h9_4; have h9_5 := bdT v4_6; unfold bd at h9_5; have h9_6 := bv4_2; unfold bd at h9_6; have h9_7 := bv4_3; unfold bd at h9_7; have h9_8 := bv4_5; unfold bd at h9_8; have h9_9 := bw4_0_10_a0_; unfold bd at h9_9; have h9_10 := bw4_0_8_a0_; unfold bd at h9_10; have h9_11 := bw4_7_6_q1_; unfold bd at h9_11; have h9_12 := h_72; unfold bd at h9_12; have h9_13 := h_77; unfold bd at h9_13; have h9_14 := kb_0; unfold bd at h9_14; have h9_15 := kb_1; unfold bd at h9_15; have h9_16 := kb_12; unfold bd at h9_16; have h9_17 := kb_300; unfold bd at h9_17; have h9_18 := kb_6; unfold bd at h9_18; have h9_19 := kb_7; unfold bd at h9_19; omega) _ _ _ _ g9  hl9
                                    · have fc_79 := nle_f c_79
                                      have b_83 : bd 13 2147483647 y_74 := ltR fc_79 kb_12 (bdT y_74) (by decide)
                                      refine lv_aload_n hx hb dX0_closeParts_227 rfl (lv_at hl 5 rfl) ?_
                                      refine g_getk (C := RX0) (T := TX0) (N := 14) hx hb hts (mc_ inX0) hown hK g rfl 0 (by decide) rfl (hts _ (List.mem_cons_of_mem _ t_373)) (fun _ h9 => h9) 9 rfl dX0_closeParts_228 ?_
                                      refine lv_bipush (v := 7) hx hb dX0_closeParts_231 (by decide) ?_
                                      refine lv_aload_n hx hb dX0_closeParts_233 rfl (lv_at hl 5 rfl) ?_
                                      refine g_getk (C := RX0) (T := TX0) (N := 14) hx hb hts (mc_ inX0) hown hK g rfl 4 (by decide) rfl (hts _ (List.mem_cons_of_mem _ t_377)) (fun _ h9 => h9) 7 rfl dX0_closeParts_234 ?_
                                      refine lv_aload_n hx hb dX0_closeParts_237 rfl (lv_at hl 5 rfl) ?_
                                      refine g_getk (C := RX0) (T := TX0) (N := 14) hx hb hts (mc_ inX0) hown hK g rfl 8 (by decide) rfl (hts _ (List.mem_cons_of_mem _ t_381)) (fun _ h9 => h9) 4 rfl dX0_closeParts_238 ?_
                                      refine g_iald hx hb hK g ma_37 ka_37 (by decide) rfl (in_bd b_55 (by decide)) dX0_closeParts_241 (fun x_84 bx_84 cx_84 => ?_)
                                      refine g_callv (va_runV (As := [.int 7, .int x_84]) (rest := []) ⟨hx, hb, hml, hown, hts⟩ (r_X8_fail_2 l dC dI L kd tys fr_75 H.size g.2.2.2.1 q0_ mq0_ kq0_ 7 (bd_sub kb_7 (by decide)) x_84 x_40 h_41 (g.fcts [6] rfl)) (cwV 2 hts (gV_ t_1215 t_1107 t_1108 t_184 t_1109) rfl rfl rfl (by decide +kernel) ⟨(Nat.le_of_ble_eq_true rfl), (Nat.le_of_ble_eq_true rfl)⟩) (pre3V g hK mq0_ kq0_ (by decide) (q := (RX8, TX8, 10)) rfl) rfl rfl hl.1 rfl (lv_room (Nat.le_of_ble_eq_true rfl)) dX0_closeParts_242 ⟨(Nat.le_of_ble_eq_true rfl), (Nat.le_of_ble_eq_true rfl)⟩) g hK (by decide) (by decide) (fx' := [(0, 12, a0_, .int 0), (0, 10, a0_, .int x_76), (7, 6, q1_, .int x_71), (0, 11, a0_, .int y_66), (0, 8, a0_, .int y_54), (8, 8, q0_, .int x_40), (0, 4, a0_, .ref a_37), (0, 3, a0_, .ref g76_0_3_a0_), (0, 0, a0_, .ref q0_), (0, 2, a0_, .ref q1_)]) rfl (fun fr_85 H locs hp hMr_85 g => ?_)
                                      have hF_86 := hp
                                      have g := g.more hF_86
                                      obtain ⟨y_87, ey_87⟩ : ∃ z : Int32, z = v4_3 + 1 := ⟨_, rfl⟩
                                      refine lv_iinc (v := y_87) (lv' := [(3, .int y_87), (6, .int y_74), (2, .int 1), (5, .int 1), (4, .int x_56), (0, .ref a0_), (1, .int x1_)]) hx hb dX0_closeParts_245 hl (k := 4) rfl (by rw [ey_87]; rfl) (by decide) rfl (fun ls hl => ?_)
                                      have ty_87 := add_bd ey_87 b_48 kb_1 (by decide)
                                      have b_88 : bd 2 300 y_87 := add_rg ty_87 b_48 kb_1 (by decide)
                                      refine lv_goto (tgt := 4) hx hb dX0_closeParts_248 (by decide) ?_
                                      have hl9 := lv_sub hl [0, 1, 2, 3, 4, 5, 6] (by rfl : lv_pick [(3, .int y_87), (6, .int y_74), (2, .int 1), (5, .int 1), (4, .int x_56), (0, .ref a0_), (1, .int x1_)] [0, 1, 2, 3, 4, 5, 6] = [(3, .int y_87), (6, .int y_74), (2, .int 1), (5, .int 1), (4, .int x_56), (0, .ref a0_), (1, .int x1_)])
                                      have g9 := g.sub (fx' := [(8, 6, q0_, .int 1201), (8, 8, q0_, .int x_40), (0, 4, a0_, .ref a_37), (0, 12, a0_, .int 0), (0, 10, a0_, .int x_76), (7, 6, q1_, .int x_71), (0, 8, a0_, .int y_54), (0, 3, a0_, .ref g76_0_3_a0_), (0, 0, a0_, .ref q0_), (0, 2, a0_, .ref q1_)]) [0, 6, 7, 1, 2, 3, 5, 8, 9, 10] rfl
                                      exact ih4  y_87 y_74 1 1 x_56 x_76 x_71 y_54 (bd_sub b_88 (by decide)) (bd_sub kb_1 (by decide)) (bd_sub kb_1 (by decide)) h_77 h_72 (bd_sub b_55 (by decide)) (by have h9_0 := b_55; unfold bd at h9_0; have h9_1 := b_58; unfold bd at h9_1; have h9_2 := b_83; unfold bd at h9_2; have h9_3 := b_88; unfold bd at h9_3; have h9_4 := bdT v4_4; unfold bd at h9_4; have h9_5 := bdT v4_6; unfold bd at h9_5; have h9_6 := bv4_2; unfold bd at h9_6; have h9_7 := bv4_3; unfold bd at h9_7; have h9_8 := bv4_5; unfold bd at h9_8; have h9_9 := bw4_0_10_a0_; unfold bd at h9_9; have h9_10 := bw4_0_8_a0_; unfold bd at h9_10; have h9_11 := bw4_7_6_q1_; unfold bd at h9_11; have h9_12 := h_72; unfold bd at h9_12; have h9_13 := h_77; unfold bd at h9_13; have h9_14 := kb_0; unfold bd at h9_14; have h9_15 := kb_1; unfold bd at h9_15; have h9_16 := kb_12; unfold bd at h9_16; have h9_17 := kb_300; unfold bd at h9_17; have h9_18 := kb_6; unfold bd at h9_18; have h9_19 := kb_7; unfold bd at h9_19; omega) _ _ _ _ g9  hl9
                                · have fc_57 := neq_f c_57
                                  refine lv_iload hx hb dX0_closeParts_42 (lv_at hl 0 rfl) ?_
                                  refine lv_bipush (v := 7) hx hb dX0_closeParts_44 (by decide) ?_
                                  refine lv_icmp_ne (tgt := 53) hx hb dX0_closeParts_46 (by decide) (fun c_89 => ?_) (fun c_89 => ?_)
                                  · have fc_89 := neq_f c_89
                                    refine lv_iconst (v := 0) hx hb dX0_closeParts_53 (by decide) ?_
                                    refine lv_istore (lv' := [(5, .int 0), (4, .int x_56), (3, .int v4_3), (6, .int v4_6), (2, .int v4_2), (0, .ref a0_), (1, .int x1_)]) hx hb dX0_closeParts_54 hl (by decide) rfl (fun ls hl => ?_)
                                    refine lv_iload hx hb dX0_closeParts_56 (lv_at hl 0 rfl) ?_
                                    refine lv_if_ne (tgt := 70) hx hb dX0_closeParts_58 (by decide) (fun c_ => absurd c_ (by decide)) (fun c_ => ?_)
                                    refine lv_iload hx hb dX0_closeParts_61 (lv_at hl 1 rfl) ?_
                                    refine g_calli (va_runS (As := [.int x_56]) (rest := []) ⟨hx, hb, hml, hown, hts⟩ (r_X0_levelOf l dC dI L kd tys f H.size g.2.2.2.1 x_56) (va_cwS 1 hts (gS_ t_1191 t_1192 t_190 t_1193) rfl rfl rfl (by decide +kernel) ⟨(Nat.le_of_ble_eq_true rfl), (Nat.le_of_ble_eq_true rfl)⟩) (pre3S g hK) rfl rfl hl.1 rfl (lv_room (Nat.le_of_ble_eq_true rfl)) dX0_closeParts_63 ⟨(Nat.le_of_ble_eq_true rfl), (Nat.le_of_ble_eq_true rfl)⟩) g hK (by decide) (by decide) (fx' := [(8, 6, q0_, .int 1201), (8, 8, q0_, .int x_40), (0, 4, a0_, .ref a_37), (0, 12, a0_, .int 0), (0, 10, a0_, .int w4_0_10_a0_), (7, 6, q1_, .int w4_7_6_q1_), (0, 8, a0_, .int w4_0_8_a0_), (0, 3, a0_, .ref g76_0_3_a0_), (0, 0, a0_, .ref q0_), (0, 2, a0_, .ref q1_)]) rfl (fun r_90 fr_90 H locs hp hMr_90 g => ?_)
                                    rcases hp with ⟨h_91, -⟩ | ⟨h_92, h_93, -⟩
                                    · obtain rfl : r_90 = 0 := h_91
                                      refine lv_iload_n hx hb dX0_closeParts_66 rfl (lv_at hl 6 rfl) ?_
                                      refine lv_icmp_lt (tgt := 74) hx hb dX0_closeParts_67 (by decide) (fun c_94 => ?_) (fun c_94 => ?_)
                                      · have fc_94 := lt_f c_94
                                        have b_95 : bd 1 2147483647 x1_ := ltR fc_94 kb_0 (bdT x1_) (by decide)
                                        refine lv_iconst (v := 0) hx hb dX0_closeParts_74 (by decide) ?_
                                        refine lv_istore_n (lv' := [(2, .int 0), (5, .int 0), (4, .int x_56), (3, .int v4_3), (6, .int v4_6), (0, .ref a0_), (1, .int x1_)]) hx hb dX0_closeParts_75 rfl hl (by decide) rfl (fun ls hl => ?_)
                                        refine lv_iload_n hx hb dX0_closeParts_76 rfl (lv_at hl 0 rfl) ?_
                                        refine lv_if_eq (tgt := 245) hx hb dX0_closeParts_77 (by decide) (fun c_ => ?_) (fun c_ => absurd (by decide) c_)
                                        obtain ⟨y_96, ey_96⟩ : ∃ z : Int32, z = v4_3 + 1 := ⟨_, rfl⟩
                                        refine lv_iinc (v := y_96) (lv' := [(3, .int y_96), (2, .int 0), (5, .int 0), (4, .int x_56), (6, .int v4_6), (0, .ref a0_), (1, .int x1_)]) hx hb dX0_closeParts_245 hl (k := 3) rfl (by rw [ey_96]; rfl) (by decide) rfl (fun ls hl => ?_)
                                        have ty_96 := add_bd ey_96 b_48 kb_1 (by decide)
                                        have b_97 : bd 2 300 y_96 := add_rg ty_96 b_48 kb_1 (by decide)
                                        refine lv_goto (tgt := 4) hx hb dX0_closeParts_248 (by decide) ?_
                                        have hl9 := lv_sub hl [0, 4, 1, 2, 3, 5, 6] (by rfl : lv_pick [(3, .int y_96), (2, .int 0), (5, .int 0), (4, .int x_56), (6, .int v4_6), (0, .ref a0_), (1, .int x1_)] [0, 4, 1, 2, 3, 5, 6] = [(3, .int y_96), (6, .int v4_6), (2, .int 0), (5, .int 0), (4, .int x_56), (0, .ref a0_), (1, .int x1_)])
                                        have g9 := g.sub (fx' := [(8, 6, q0_, .int 1201), (8, 8, q0_, .int x_40), (0, 4, a0_, .ref a_37), (0, 12, a0_, .int 0), (0, 10, a0_, .int w4_0_10_a0_), (7, 6, q1_, .int w4_7_6_q1_), (0, 8, a0_, .int w4_0_8_a0_), (0, 3, a0_, .ref g76_0_3_a0_), (0, 0, a0_, .ref q0_), (0, 2, a0_, .ref q1_)]) [0, 1, 2, 3, 4, 5, 6, 7, 8, 9] rfl
                                        exact ih4  y_96 v4_6 0 0 x_56 w4_0_10_a0_ w4_7_6_q1_ w4_0_8_a0_ (bd_sub b_97 (by decide)) (bd_sub kb_0 (by decide)) (bd_sub kb_0 (by decide)) bw4_0_10_a0_ bw4_7_6_q1_ (bd_sub b_53 (by decide)) (by have h9_0 := b_53; unfold bd at h9_0; have h9_1 := b_97; unfold bd at h9_1; have h9_2 := bdT v4_4; unfold bd at h9_2; have h9_3 := bdT v4_6; unfold bd at h9_3; have h9_4 := bdT x_56; unfold bd at h9_4; have h9_5 := bv4_2; unfold bd at h9_5; have h9_6 := bv4_3; unfold bd at h9_6; have h9_7 := bv4_5; unfold bd at h9_7; have h9_8 := bw4_0_10_a0_; unfold bd at h9_8; have h9_9 := bw4_0_8_a0_; unfold bd at h9_9; have h9_10 := bw4_7_6_q1_; unfold bd at h9_10; have h9_11 := kb_0; unfold bd at h9_11; have h9_12 := kb_1; unfold bd at h9_12; have h9_13 := kb_12; unfold bd at h9_13; have h9_14 := kb_300; unfold bd at h9_14; have h9_15 := kb_6; unfold bd at h9_15; have h9_16 := kb_7; unfold bd at h9_16; omega) _ _ _ _ g9  hl9
                                      · have fc_94 := nlt_f c_94
                                        have b_98 : bd (-2147483648) 0 x1_ := leL fc_94 (bdT x1_) kb_0 (by decide)
                                        refine lv_iconst (v := 1) hx hb dX0_closeParts_70 (by decide) ?_
                                        refine lv_goto (tgt := 75) hx hb dX0_closeParts_71 (by decide) ?_
                                        refine lv_istore_n (lv' := [(2, .int 1), (5, .int 0), (4, .int x_56), (3, .int v4_3), (6, .int v4_6), (0, .ref a0_), (1, .int x1_)]) hx hb dX0_closeParts_75 rfl hl (by decide) rfl (fun ls hl => ?_)
                                        refine lv_iload_n hx hb dX0_closeParts_76 rfl (lv_at hl 0 rfl) ?_
                                        refine lv_if_eq (tgt := 245) hx hb dX0_closeParts_77 (by decide) (fun c_ => absurd c_ (by decide)) (fun c_ => ?_)
                                        refine lv_aload_n hx hb dX0_closeParts_80 rfl (lv_at hl 5 rfl) ?_
                                        refine lv_dup hx hb dX0_closeParts_81 rfl ?_
                                        refine g_getk (C := RX0) (T := TX0) (N := 14) hx hb hts (mc_ inX0) hown hK g rfl 8 (by decide) rfl (hts _ (List.mem_cons_of_mem _ t_381)) (fun _ h9 => h9) 6 rfl dX0_closeParts_82 ?_
                                        refine lv_iconst (v := 1) hx hb dX0_closeParts_85 (by decide) ?_
                                        refine lv_isub hx hb dX0_closeParts_86 ?_
                                        refine lv_topi (fun y_99 ey_99 => ?_)
                                        obtain rfl : y_54 = y_99 := ey_54.trans ey_99.symm
                                        refine g_put (C := RX0) (T := TX0) (N := 14) hx hb hts (mc_ inX0) tyX0 tyX0_ok nmX0 hown hK g ma0_ ka0_ (by decide) rfl 8 (by decide) (hts _ (List.mem_cons_of_mem _ t_381)) (fun _ h9 => h9) rfl rfl (okV_i (bd_sub b_55 (by decide))) rfl rfl (by decide) (Or.inr (Or.inl (by decide))) (fx' := [(8, 6, q0_, .int 1201), (8, 8, q0_, .int x_40), (0, 4, a0_, .ref a_37), (0, 12, a0_, .int 0), (0, 10, a0_, .int w4_0_10_a0_), (7, 6, q1_, .int w4_7_6_q1_), (0, 3, a0_, .ref g76_0_3_a0_), (0, 0, a0_, .ref q0_), (0, 2, a0_, .ref q1_)]) rfl dX0_closeParts_87 (fun f H locs hM_100 g => ?_)
                                        refine lv_aload_n hx hb dX0_closeParts_90 rfl (lv_at hl 5 rfl) ?_
                                        refine g_calli (va_runV (As := []) (rest := []) ⟨hx, hb, hml, hown, hts⟩ (r_X0_takeHeight l dC dI L kd tys f H.size g.2.2.2.1 a0_ ma0_ ka0_) (cwV 0 hts (gV_ t_1199 t_1201 t_16 t_190 t_1202) rfl rfl rfl (by decide +kernel) ⟨(Nat.le_of_ble_eq_true rfl), (Nat.le_of_ble_eq_true rfl)⟩) (pre3V g hK ma0_ ka0_ (by decide) (q := (RX0, TX0, 14)) rfl) rfl rfl hl.1 rfl (lv_room (Nat.le_of_ble_eq_true rfl)) dX0_closeParts_91 ⟨(Nat.le_of_ble_eq_true rfl), (Nat.le_of_ble_eq_true rfl)⟩) g hK (by decide) (by decide) (fx' := [(0, 8, a0_, .int y_54), (8, 6, q0_, .int 1201), (8, 8, q0_, .int x_40), (0, 4, a0_, .ref a_37), (0, 12, a0_, .int 0), (7, 6, q1_, .int w4_7_6_q1_), (0, 3, a0_, .ref g76_0_3_a0_), (0, 0, a0_, .ref q0_), (0, 2, a0_, .ref q1_)]) rfl (fun r_101 fr_101 H locs hp hMr_101 g => ?_)
                                        obtain ⟨x_102, h_103, hF_104⟩ := hp
                                        have g := g.more hF_104
                                        refine lv_istore (lv' := [(6, .int r_101), (2, .int 1), (5, .int 0), (4, .int x_56), (3, .int v4_3), (0, .ref a0_), (1, .int x1_)]) hx hb dX0_closeParts_94 hl (by decide) rfl (fun ls hl => ?_)
                                        refine lv_iload hx hb dX0_closeParts_96 (lv_at hl 2 rfl) ?_
                                        refine lv_if_eq (tgt := 136) hx hb dX0_closeParts_98 (by decide) (fun c_ => ?_) (fun c_ => absurd (by decide) c_)
                                        refine lv_iload hx hb dX0_closeParts_136 (lv_at hl 3 rfl) ?_
                                        refine lv_sipush (v := 205) hx hb dX0_closeParts_138 (by decide) ?_
                                        have kb_205 : bd 205 205 (205 : Int32) := ⟨by decide, by decide⟩
                                        refine lv_icmp_eq (tgt := 152) hx hb dX0_closeParts_141 (by decide) (fun c_105 => ?_) (fun c_105 => ?_)
                                        · have fc_105 := eq_f c_105
                                          have b_106 : bd 205 205 x_56 := eqX fc_105 (bdT x_56) kb_205 (by decide)
                                          refine lv_aload_n hx hb dX0_closeParts_152 rfl (lv_at hl 5 rfl) ?_
                                          refine g_getk (C := RX0) (T := TX0) (N := 14) hx hb hts (mc_ inX0) hown hK g rfl 2 (by decide) rfl (hts _ (List.mem_cons_of_mem _ t_375)) (fun _ h9 => h9) 9 rfl dX0_closeParts_153 ?_
                                          refine lv_bipush (v := 8) hx hb dX0_closeParts_156 (by decide) ?_
                                          refine lv_iconst (v := 0) hx hb dX0_closeParts_158 (by decide) ?_
                                          refine g_callv (va_runV (As := [.int 8, .int 0]) (rest := []) ⟨hx, hb, hml, hown, hts⟩ (r_X7_emit l dC dI L kd tys fr_101 H.size g.2.2.2.1 q1_ mq1_ kq1_ 8 0) (cwV 2 hts (gV_ t_1203 t_1204 t_1205 t_191 t_1206) rfl rfl rfl (by decide +kernel) ⟨(Nat.le_of_ble_eq_true rfl), (Nat.le_of_ble_eq_true rfl)⟩) (pre3V g hK mq1_ kq1_ (by decide) (q := (RX7, TX7, 19)) rfl) rfl rfl hl.1 rfl (lv_room (Nat.le_of_ble_eq_true rfl)) dX0_closeParts_159 ⟨(Nat.le_of_ble_eq_true rfl), (Nat.le_of_ble_eq_true rfl)⟩) g hK (by decide) (by decide) (fx' := [(0, 10, a0_, .int x_102), (0, 8, a0_, .int y_54), (8, 6, q0_, .int 1201), (8, 8, q0_, .int x_40), (0, 4, a0_, .ref a_37), (0, 12, a0_, .int 0), (0, 3, a0_, .ref g76_0_3_a0_), (0, 0, a0_, .ref q0_), (0, 2, a0_, .ref q1_)]) rfl (fun fr_107 H locs hp hMr_107 g => ?_)
                                          obtain ⟨x_108, h_109, hF_110⟩ := hp
                                          have g := g.more hF_110
                                          refine lv_aload_n hx hb dX0_closeParts_162 rfl (lv_at hl 5 rfl) ?_
                                          refine g_getk (C := RX0) (T := TX0) (N := 14) hx hb hts (mc_ inX0) hown hK g rfl 2 (by decide) rfl (hts _ (List.mem_cons_of_mem _ t_375)) (fun _ h9 => h9) 9 rfl dX0_closeParts_163 ?_
                                          refine lv_aload_n hx hb dX0_closeParts_166 rfl (lv_at hl 5 rfl) ?_
                                          refine g_getr (K := 112) (C := RX0) (T := TX0) (N := 14) hx hb hts (mc_ inX0) hown hK g ma0_ ka0_ (by decide) rfl 5 (by decide) rfl (hts _ (List.mem_cons_of_mem _ t_378)) (fun _ h9 => h9) rfl dX0_closeParts_167 (fun a_111 ma_111 ka_111 g => ?_)
                                          refine lv_aload_n hx hb dX0_closeParts_170 rfl (lv_at hl 5 rfl) ?_
                                          refine g_getk (C := RX0) (T := TX0) (N := 14) hx hb hts (mc_ inX0) hown hK g rfl 8 (by decide) rfl (hts _ (List.mem_cons_of_mem _ t_381)) (fun _ h9 => h9) 3 rfl dX0_closeParts_171 ?_
                                          refine g_iald hx hb hK g ma_111 ka_111 (by decide) rfl (in_bd b_55 (by decide)) dX0_closeParts_174 (fun x_112 bx_112 cx_112 => ?_)
                                          refine g_callv (va_runV (As := [.int x_112]) (rest := []) ⟨hx, hb, hml, hown, hts⟩ (r_X7_leadHere l dC dI L kd tys fr_107 H.size g.2.2.2.1 q1_ mq1_ kq1_ x_112) (cwV 1 hts (gV_ t_1207 t_1208 t_1209 t_191 t_1210) rfl rfl rfl (by decide +kernel) ⟨(Nat.le_of_ble_eq_true rfl), (Nat.le_of_ble_eq_true rfl)⟩) (pre3V g hK mq1_ kq1_ (by decide) (q := (RX7, TX7, 19)) rfl) rfl rfl hl.1 rfl (lv_room (Nat.le_of_ble_eq_true rfl)) dX0_closeParts_175 ⟨(Nat.le_of_ble_eq_true rfl), (Nat.le_of_ble_eq_true rfl)⟩) g hK (by decide) (by decide) (fx' := [(0, 5, a0_, .ref a_111), (7, 6, q1_, .int x_108), (0, 10, a0_, .int x_102), (0, 8, a0_, .int y_54), (8, 6, q0_, .int 1201), (8, 8, q0_, .int x_40), (0, 4, a0_, .ref a_37), (0, 12, a0_, .int 0), (0, 3, a0_, .ref g76_0_3_a0_), (0, 0, a0_, .ref q0_), (0, 2, a0_, .ref q1_)]) rfl (fun fr_113 H locs hp hMr_113 g => ?_)
                                          refine lv_goto (tgt := 191) hx hb dX0_closeParts_178 (by decide) ?_
                                          refine lv_iconst (v := 1) hx hb dX0_closeParts_191 (by decide) ?_
                                          refine lv_iload hx hb dX0_closeParts_192 (lv_at hl 2 rfl) ?_
                                          refine lv_if_eq (tgt := 202) hx hb dX0_closeParts_194 (by decide) (fun c_ => ?_) (fun c_ => absurd (by decide) c_)
                                          refine lv_iload hx hb dX0_closeParts_202 (lv_at hl 0 rfl) ?_
                                          refine lv_aload_n hx hb dX0_closeParts_204 rfl (lv_at hl 5 rfl) ?_
                                          refine g_calli (va_runV (As := []) (rest := [.int r_101, .int 1]) ⟨hx, hb, hml, hown, hts⟩ (r_X0_takeHeight l dC dI L kd tys fr_113 H.size g.2.2.2.1 a0_ ma0_ ka0_) (cwV 0 hts (gV_ t_1199 t_1201 t_16 t_190 t_1202) rfl rfl rfl (by decide +kernel) ⟨(Nat.le_of_ble_eq_true rfl), (Nat.le_of_ble_eq_true rfl)⟩) (pre3V g hK ma0_ ka0_ (by decide) (q := (RX0, TX0, 14)) rfl) rfl rfl hl.1 rfl (lv_room (Nat.le_of_ble_eq_true rfl)) dX0_closeParts_205 ⟨(Nat.le_of_ble_eq_true rfl), (Nat.le_of_ble_eq_true rfl)⟩) g hK (by decide) (by decide) (fx' := [(0, 5, a0_, .ref a_111), (7, 6, q1_, .int x_108), (0, 8, a0_, .int y_54), (8, 6, q0_, .int 1201), (8, 8, q0_, .int x_40), (0, 4, a0_, .ref a_37), (0, 12, a0_, .int 0), (0, 3, a0_, .ref g76_0_3_a0_), (0, 0, a0_, .ref q0_), (0, 2, a0_, .ref q1_)]) rfl (fun r_114 fr_114 H locs hp hMr_114 g => ?_)
                                          obtain ⟨x_115, h_116, hF_117⟩ := hp
                                          have g := g.more hF_117
                                          refine va_mmax hx hb (hml.trans hl.1.symm) hown (hts _ (List.mem_cons_of_mem _ t_1194)) (hts _ (List.mem_cons_of_mem _ t_1041)) (hts _ (List.mem_cons_of_mem _ t_204)) (hts _ (List.mem_cons_of_mem _ t_1042)) (Nat.le_of_ble_eq_true rfl) (Nat.le_of_ble_eq_true rfl) (Nat.le_of_ble_eq_true rfl) (Nat.le_of_ble_eq_true rfl) dX0_closeParts_208 ?_
                                          refine lv_topi (fun y_118 ey_118 => ?_)
                                          have ty_118 : y_118.toInt = max r_101.toInt r_114.toInt := by rw [ey_118]; exact mmax_ok _ _
                                          have b_119 : bd (-2147483648) 2147483647 y_118 := max_rg ty_118 (bdT r_101) (bdT r_114) (by decide)
                                          refine lv_iadd hx hb dX0_closeParts_211 ?_
                                          refine lv_topi (fun y_120 ey_120 => ?_)
                                          refine lv_istore (lv' := [(6, .int y_120), (2, .int 1), (5, .int 0), (4, .int x_56), (3, .int v4_3), (0, .ref a0_), (1, .int x1_)]) hx hb dX0_closeParts_212 hl (by decide) rfl (fun ls hl => ?_)
                                          refine lv_aload_n hx hb dX0_closeParts_214 rfl (lv_at hl 5 rfl) ?_
                                          refine lv_iload hx hb dX0_closeParts_215 (lv_at hl 0 rfl) ?_
                                          refine g_callv (va_runV (As := [.int y_120]) (rest := []) ⟨hx, hb, hml, hown, hts⟩ (r_X0_addWhole l dC dI L kd tys fr_114 H.size g.2.2.2.1 a0_ ma0_ ka0_ y_120) (cwV 1 hts (gV_ t_1211 t_1213 t_17 t_190 t_1214) rfl rfl rfl (by decide +kernel) ⟨(Nat.le_of_ble_eq_true rfl), (Nat.le_of_ble_eq_true rfl)⟩) (pre3V g hK ma0_ ka0_ (by decide) (q := (RX0, TX0, 14)) rfl) rfl rfl hl.1 rfl (lv_room (Nat.le_of_ble_eq_true rfl)) dX0_closeParts_217 ⟨(Nat.le_of_ble_eq_true rfl), (Nat.le_of_ble_eq_true rfl)⟩) g hK (by decide) (by decide) (fx' := [(0, 5, a0_, .ref a_111), (7, 6, q1_, .int x_108), (0, 8, a0_, .int y_54), (8, 6, q0_, .int 1201), (8, 8, q0_, .int x_40), (0, 4, a0_, .ref a_37), (0, 3, a0_, .ref g76_0_3_a0_), (0, 0, a0_, .ref q0_), (0, 2, a0_, .ref q1_)]) rfl (fun fr_121 H locs hp hMr_121 g => ?_)
                                          obtain ⟨x_122, h_123, hF_124⟩ := hp
                                          have g := g.more hF_124
                                          refine lv_iload hx hb dX0_closeParts_220 (lv_at hl 0 rfl) ?_
                                          refine lv_bipush (v := 12) hx hb dX0_closeParts_222 (by decide) ?_
                                          refine lv_icmp_le (tgt := 245) hx hb dX0_closeParts_224 (by decide) (fun c_125 => ?_) (fun c_125 => ?_)
                                          · have fc_125 := le_f c_125
                                            have b_126 : bd (-2147483648) 12 y_120 := leL fc_125 (bdT y_120) kb_12 (by decide)
                                            obtain ⟨y_127, ey_127⟩ : ∃ z : Int32, z = v4_3 + 1 := ⟨_, rfl⟩
                                            refine lv_iinc (v := y_127) (lv' := [(3, .int y_127), (6, .int y_120), (2, .int 1), (5, .int 0), (4, .int x_56), (0, .ref a0_), (1, .int x1_)]) hx hb dX0_closeParts_245 hl (k := 4) rfl (by rw [ey_127]; rfl) (by decide) rfl (fun ls hl => ?_)
                                            have ty_127 := add_bd ey_127 b_48 kb_1 (by decide)
                                            have b_128 : bd 2 300 y_127 := add_rg ty_127 b_48 kb_1 (by decide)
                                            refine lv_goto (tgt := 4) hx hb dX0_closeParts_248 (by decide) ?_
                                            have hl9 := lv_sub hl [0, 1, 2, 3, 4, 5, 6] (by rfl : lv_pick [(3, .int y_127), (6, .int y_120), (2, .int 1), (5, .int 0), (4, .int x_56), (0, .ref a0_), (1, .int x1_)] [0, 1, 2, 3, 4, 5, 6] = [(3, .int y_127), (6, .int y_120), (2, .int 1), (5, .int 0), (4, .int x_56), (0, .ref a0_), (1, .int x1_)])
                                            have g9 := g.sub (fx' := [(8, 6, q0_, .int 1201), (8, 8, q0_, .int x_40), (0, 4, a0_, .ref a_37), (0, 12, a0_, .int 0), (0, 10, a0_, .int x_122), (7, 6, q1_, .int x_108), (0, 8, a0_, .int y_54), (0, 3, a0_, .ref g76_0_3_a0_), (0, 0, a0_, .ref q0_), (0, 2, a0_, .ref q1_)]) [5, 6, 7, 0, 1, 3, 4, 8, 9, 10] rfl
                                            exact ih4  y_127 y_120 1 0 x_56 x_122 x_108 y_54 (bd_sub b_128 (by decide)) (bd_sub kb_1 (by decide)) (bd_sub kb_0 (by decide)) h_123 h_109 (bd_sub b_55 (by decide)) (by have h9_0 := b_106; unfold bd at h9_0; have h9_1 := b_126; unfold bd at h9_1; have h9_2 := b_128; unfold bd at h9_2; have h9_3 := b_55; unfold bd at h9_3; have h9_4 := bdT v4_4; unfold bd at h9_4; have h9_5 := bdT v4_6; unfold bd at h9_5; have h9_6 := bv4_2; unfold bd at h9_6; have h9_7 := bv4_3; unfold bd at h9_7; have h9_8 := bv4_5; unfold bd at h9_8; have h9_9 := bw4_0_10_a0_; unfold bd at h9_9; have h9_10 := bw4_0_8_a0_; unfold bd at h9_10; have h9_11 := bw4_7_6_q1_; unfold bd at h9_11; have h9_12 := h_109; unfold bd at h9_12; have h9_13 := h_123; unfold bd at h9_13; have h9_14 := kb_0; unfold bd at h9_14; have h9_15 := kb_1; unfold bd at h9_15; have h9_16 := kb_12; unfold bd at h9_16; have h9_17 := kb_205; unfold bd at h9_17; have h9_18 := kb_300; unfold bd at h9_18; have h9_19 := kb_6; unfold bd at h9_19; have h9_20 := kb_7; unfold bd at h9_20; omega) _ _ _ _ g9  hl9
                                          · have fc_125 := nle_f c_125
                                            have b_129 : bd 13 2147483647 y_120 := ltR fc_125 kb_12 (bdT y_120) (by decide)
                                            refine lv_aload_n hx hb dX0_closeParts_227 rfl (lv_at hl 5 rfl) ?_
                                            refine g_getk (C := RX0) (T := TX0) (N := 14) hx hb hts (mc_ inX0) hown hK g rfl 0 (by decide) rfl (hts _ (List.mem_cons_of_mem _ t_373)) (fun _ h9 => h9) 9 rfl dX0_closeParts_228 ?_
                                            refine lv_bipush (v := 7) hx hb dX0_closeParts_231 (by decide) ?_
                                            refine lv_aload_n hx hb dX0_closeParts_233 rfl (lv_at hl 5 rfl) ?_
                                            refine g_getk (C := RX0) (T := TX0) (N := 14) hx hb hts (mc_ inX0) hown hK g rfl 4 (by decide) rfl (hts _ (List.mem_cons_of_mem _ t_377)) (fun _ h9 => h9) 7 rfl dX0_closeParts_234 ?_
                                            refine lv_aload_n hx hb dX0_closeParts_237 rfl (lv_at hl 5 rfl) ?_
                                            refine g_getk (C := RX0) (T := TX0) (N := 14) hx hb hts (mc_ inX0) hown hK g rfl 8 (by decide) rfl (hts _ (List.mem_cons_of_mem _ t_381)) (fun _ h9 => h9) 4 rfl dX0_closeParts_238 ?_
                                            refine g_iald hx hb hK g ma_37 ka_37 (by decide) rfl (in_bd b_55 (by decide)) dX0_closeParts_241 (fun x_130 bx_130 cx_130 => ?_)
                                            refine g_callv (va_runV (As := [.int 7, .int x_130]) (rest := []) ⟨hx, hb, hml, hown, hts⟩ (r_X8_fail_2 l dC dI L kd tys fr_121 H.size g.2.2.2.1 q0_ mq0_ kq0_ 7 (bd_sub kb_7 (by decide)) x_130 x_40 h_41 (g.fcts [6] rfl)) (cwV 2 hts (gV_ t_1215 t_1107 t_1108 t_184 t_1109) rfl rfl rfl (by decide +kernel) ⟨(Nat.le_of_ble_eq_true rfl), (Nat.le_of_ble_eq_true rfl)⟩) (pre3V g hK mq0_ kq0_ (by decide) (q := (RX8, TX8, 10)) rfl) rfl rfl hl.1 rfl (lv_room (Nat.le_of_ble_eq_true rfl)) dX0_closeParts_242 ⟨(Nat.le_of_ble_eq_true rfl), (Nat.le_of_ble_eq_true rfl)⟩) g hK (by decide) (by decide) (fx' := [(0, 12, a0_, .int 0), (0, 10, a0_, .int x_122), (0, 5, a0_, .ref a_111), (7, 6, q1_, .int x_108), (0, 8, a0_, .int y_54), (8, 8, q0_, .int x_40), (0, 4, a0_, .ref a_37), (0, 3, a0_, .ref g76_0_3_a0_), (0, 0, a0_, .ref q0_), (0, 2, a0_, .ref q1_)]) rfl (fun fr_131 H locs hp hMr_131 g => ?_)
                                            have hF_132 := hp
                                            have g := g.more hF_132
                                            obtain ⟨y_133, ey_133⟩ : ∃ z : Int32, z = v4_3 + 1 := ⟨_, rfl⟩
                                            refine lv_iinc (v := y_133) (lv' := [(3, .int y_133), (6, .int y_120), (2, .int 1), (5, .int 0), (4, .int x_56), (0, .ref a0_), (1, .int x1_)]) hx hb dX0_closeParts_245 hl (k := 4) rfl (by rw [ey_133]; rfl) (by decide) rfl (fun ls hl => ?_)
                                            have ty_133 := add_bd ey_133 b_48 kb_1 (by decide)
                                            have b_134 : bd 2 300 y_133 := add_rg ty_133 b_48 kb_1 (by decide)
                                            refine lv_goto (tgt := 4) hx hb dX0_closeParts_248 (by decide) ?_
                                            have hl9 := lv_sub hl [0, 1, 2, 3, 4, 5, 6] (by rfl : lv_pick [(3, .int y_133), (6, .int y_120), (2, .int 1), (5, .int 0), (4, .int x_56), (0, .ref a0_), (1, .int x1_)] [0, 1, 2, 3, 4, 5, 6] = [(3, .int y_133), (6, .int y_120), (2, .int 1), (5, .int 0), (4, .int x_56), (0, .ref a0_), (1, .int x1_)])
                                            have g9 := g.sub (fx' := [(8, 6, q0_, .int 1201), (8, 8, q0_, .int x_40), (0, 4, a0_, .ref a_37), (0, 12, a0_, .int 0), (0, 10, a0_, .int x_122), (7, 6, q1_, .int x_108), (0, 8, a0_, .int y_54), (0, 3, a0_, .ref g76_0_3_a0_), (0, 0, a0_, .ref q0_), (0, 2, a0_, .ref q1_)]) [0, 6, 7, 1, 2, 4, 5, 8, 9, 10] rfl
                                            exact ih4  y_133 y_120 1 0 x_56 x_122 x_108 y_54 (bd_sub b_134 (by decide)) (bd_sub kb_1 (by decide)) (bd_sub kb_0 (by decide)) h_123 h_109 (bd_sub b_55 (by decide)) (by have h9_0 := b_106; unfold bd at h9_0; have h9_1 := b_129; unfold bd at h9_1; have h9_2 := b_134; unfold bd at h9_2; have h9_3 := b_55; unfold bd at h9_3; have h9_4 := bdT v4_4; unfold bd at h9_4; have h9_5 := bdT v4_6; unfold bd at h9_5; have h9_6 := bv4_2; unfold bd at h9_6; have h9_7 := bv4_3; unfold bd at h9_7; have h9_8 := bv4_5; unfold bd at h9_8; have h9_9 := bw4_0_10_a0_; unfold bd at h9_9; have h9_10 := bw4_0_8_a0_; unfold bd at h9_10; have h9_11 := bw4_7_6_q1_; unfold bd at h9_11; have h9_12 := h_109; unfold bd at h9_12; have h9_13 := h_123; unfold bd at h9_13; have h9_14 := kb_0; unfold bd at h9_14; have h9_15 := kb_1; unfold bd at h9_15; have h9_16 := kb_12; unfold bd at h9_16; have h9_17 := kb_205; unfold bd at h9_17; have h9_18 := kb_300; unfold bd at h9_18; have h9_19 := kb_6; unfold bd at h9_19; have h9_20 := kb_7; unfold bd at h9_20; omega) _ _ _ _ g9  hl9
                                        · have fc_105 := neq_f c_105
                                          refine lv_iload hx hb dX0_closeParts_144 (lv_at hl 3 rfl) ?_
                                          refine lv_sipush (v := 206) hx hb dX0_closeParts_146 (by decide) ?_
                                          have kb_206 : bd 206 206 (206 : Int32) := ⟨by decide, by decide⟩
                                          refine lv_icmp_ne (tgt := 181) hx hb dX0_closeParts_149 (by decide) (fun c_135 => ?_) (fun c_135 => ?_)
                                          · have fc_135 := neq_f c_135
                                            refine lv_aload_n hx hb dX0_closeParts_181 rfl (lv_at hl 5 rfl) ?_
                                            refine g_getk (C := RX0) (T := TX0) (N := 14) hx hb hts (mc_ inX0) hown hK g rfl 2 (by decide) rfl (hts _ (List.mem_cons_of_mem _ t_375)) (fun _ h9 => h9) 9 rfl dX0_closeParts_182 ?_
                                            refine lv_iload hx hb dX0_closeParts_185 (lv_at hl 3 rfl) ?_
                                            refine lv_iconst (v := 0) hx hb dX0_closeParts_187 (by decide) ?_
                                            refine g_callv (va_runV (As := [.int x_56, .int 0]) (rest := []) ⟨hx, hb, hml, hown, hts⟩ (r_X7_emit l dC dI L kd tys fr_101 H.size g.2.2.2.1 q1_ mq1_ kq1_ x_56 0) (cwV 2 hts (gV_ t_1203 t_1204 t_1205 t_191 t_1206) rfl rfl rfl (by decide +kernel) ⟨(Nat.le_of_ble_eq_true rfl), (Nat.le_of_ble_eq_true rfl)⟩) (pre3V g hK mq1_ kq1_ (by decide) (q := (RX7, TX7, 19)) rfl) rfl rfl hl.1 rfl (lv_room (Nat.le_of_ble_eq_true rfl)) dX0_closeParts_188 ⟨(Nat.le_of_ble_eq_true rfl), (Nat.le_of_ble_eq_true rfl)⟩) g hK (by decide) (by decide) (fx' := [(0, 10, a0_, .int x_102), (0, 8, a0_, .int y_54), (8, 6, q0_, .int 1201), (8, 8, q0_, .int x_40), (0, 4, a0_, .ref a_37), (0, 12, a0_, .int 0), (0, 3, a0_, .ref g76_0_3_a0_), (0, 0, a0_, .ref q0_), (0, 2, a0_, .ref q1_)]) rfl (fun fr_136 H locs hp hMr_136 g => ?_)
                                            obtain ⟨x_137, h_138, hF_139⟩ := hp
                                            have g := g.more hF_139
                                            refine lv_iconst (v := 1) hx hb dX0_closeParts_191 (by decide) ?_
                                            refine lv_iload hx hb dX0_closeParts_192 (lv_at hl 2 rfl) ?_
                                            refine lv_if_eq (tgt := 202) hx hb dX0_closeParts_194 (by decide) (fun c_ => ?_) (fun c_ => absurd (by decide) c_)
                                            refine lv_iload hx hb dX0_closeParts_202 (lv_at hl 0 rfl) ?_
                                            refine lv_aload_n hx hb dX0_closeParts_204 rfl (lv_at hl 5 rfl) ?_
                                            refine g_calli (va_runV (As := []) (rest := [.int r_101, .int 1]) ⟨hx, hb, hml, hown, hts⟩ (r_X0_takeHeight l dC dI L kd tys fr_136 H.size g.2.2.2.1 a0_ ma0_ ka0_) (cwV 0 hts (gV_ t_1199 t_1201 t_16 t_190 t_1202) rfl rfl rfl (by decide +kernel) ⟨(Nat.le_of_ble_eq_true rfl), (Nat.le_of_ble_eq_true rfl)⟩) (pre3V g hK ma0_ ka0_ (by decide) (q := (RX0, TX0, 14)) rfl) rfl rfl hl.1 rfl (lv_room (Nat.le_of_ble_eq_true rfl)) dX0_closeParts_205 ⟨(Nat.le_of_ble_eq_true rfl), (Nat.le_of_ble_eq_true rfl)⟩) g hK (by decide) (by decide) (fx' := [(7, 6, q1_, .int x_137), (0, 8, a0_, .int y_54), (8, 6, q0_, .int 1201), (8, 8, q0_, .int x_40), (0, 4, a0_, .ref a_37), (0, 12, a0_, .int 0), (0, 3, a0_, .ref g76_0_3_a0_), (0, 0, a0_, .ref q0_), (0, 2, a0_, .ref q1_)]) rfl (fun r_140 fr_140 H locs hp hMr_140 g => ?_)
                                            obtain ⟨x_141, h_142, hF_143⟩ := hp
                                            have g := g.more hF_143
                                            refine va_mmax hx hb (hml.trans hl.1.symm) hown (hts _ (List.mem_cons_of_mem _ t_1194)) (hts _ (List.mem_cons_of_mem _ t_1041)) (hts _ (List.mem_cons_of_mem _ t_204)) (hts _ (List.mem_cons_of_mem _ t_1042)) (Nat.le_of_ble_eq_true rfl) (Nat.le_of_ble_eq_true rfl) (Nat.le_of_ble_eq_true rfl) (Nat.le_of_ble_eq_true rfl) dX0_closeParts_208 ?_
                                            refine lv_topi (fun y_144 ey_144 => ?_)
                                            have ty_144 : y_144.toInt = max r_101.toInt r_140.toInt := by rw [ey_144]; exact mmax_ok _ _
                                            have b_145 : bd (-2147483648) 2147483647 y_144 := max_rg ty_144 (bdT r_101) (bdT r_140) (by decide)
                                            refine lv_iadd hx hb dX0_closeParts_211 ?_
                                            refine lv_topi (fun y_146 ey_146 => ?_)
                                            refine lv_istore (lv' := [(6, .int y_146), (2, .int 1), (5, .int 0), (4, .int x_56), (3, .int v4_3), (0, .ref a0_), (1, .int x1_)]) hx hb dX0_closeParts_212 hl (by decide) rfl (fun ls hl => ?_)
                                            refine lv_aload_n hx hb dX0_closeParts_214 rfl (lv_at hl 5 rfl) ?_
                                            refine lv_iload hx hb dX0_closeParts_215 (lv_at hl 0 rfl) ?_
                                            refine g_callv (va_runV (As := [.int y_146]) (rest := []) ⟨hx, hb, hml, hown, hts⟩ (r_X0_addWhole l dC dI L kd tys fr_140 H.size g.2.2.2.1 a0_ ma0_ ka0_ y_146) (cwV 1 hts (gV_ t_1211 t_1213 t_17 t_190 t_1214) rfl rfl rfl (by decide +kernel) ⟨(Nat.le_of_ble_eq_true rfl), (Nat.le_of_ble_eq_true rfl)⟩) (pre3V g hK ma0_ ka0_ (by decide) (q := (RX0, TX0, 14)) rfl) rfl rfl hl.1 rfl (lv_room (Nat.le_of_ble_eq_true rfl)) dX0_closeParts_217 ⟨(Nat.le_of_ble_eq_true rfl), (Nat.le_of_ble_eq_true rfl)⟩) g hK (by decide) (by decide) (fx' := [(7, 6, q1_, .int x_137), (0, 8, a0_, .int y_54), (8, 6, q0_, .int 1201), (8, 8, q0_, .int x_40), (0, 4, a0_, .ref a_37), (0, 3, a0_, .ref g76_0_3_a0_), (0, 0, a0_, .ref q0_), (0, 2, a0_, .ref q1_)]) rfl (fun fr_147 H locs hp hMr_147 g => ?_)
                                            obtain ⟨x_148, h_149, hF_150⟩ := hp
                                            have g := g.more hF_150
                                            refine lv_iload hx hb dX0_closeParts_220 (lv_at hl 0 rfl) ?_
                                            refine lv_bipush (v := 12) hx hb dX0_closeParts_222 (by decide) ?_
                                            refine lv_icmp_le (tgt := 245) hx hb dX0_closeParts_224 (by decide) (fun c_151 => ?_) (fun c_151 => ?_)
                                            · have fc_151 := le_f c_151
                                              have b_152 : bd (-2147483648) 12 y_146 := leL fc_151 (bdT y_146) kb_12 (by decide)
                                              obtain ⟨y_153, ey_153⟩ : ∃ z : Int32, z = v4_3 + 1 := ⟨_, rfl⟩
                                              refine lv_iinc (v := y_153) (lv' := [(3, .int y_153), (6, .int y_146), (2, .int 1), (5, .int 0), (4, .int x_56), (0, .ref a0_), (1, .int x1_)]) hx hb dX0_closeParts_245 hl (k := 4) rfl (by rw [ey_153]; rfl) (by decide) rfl (fun ls hl => ?_)
                                              have ty_153 := add_bd ey_153 b_48 kb_1 (by decide)
                                              have b_154 : bd 2 300 y_153 := add_rg ty_153 b_48 kb_1 (by decide)
                                              refine lv_goto (tgt := 4) hx hb dX0_closeParts_248 (by decide) ?_
                                              have hl9 := lv_sub hl [0, 1, 2, 3, 4, 5, 6] (by rfl : lv_pick [(3, .int y_153), (6, .int y_146), (2, .int 1), (5, .int 0), (4, .int x_56), (0, .ref a0_), (1, .int x1_)] [0, 1, 2, 3, 4, 5, 6] = [(3, .int y_153), (6, .int y_146), (2, .int 1), (5, .int 0), (4, .int x_56), (0, .ref a0_), (1, .int x1_)])
                                              have g9 := g.sub (fx' := [(8, 6, q0_, .int 1201), (8, 8, q0_, .int x_40), (0, 4, a0_, .ref a_37), (0, 12, a0_, .int 0), (0, 10, a0_, .int x_148), (7, 6, q1_, .int x_137), (0, 8, a0_, .int y_54), (0, 3, a0_, .ref g76_0_3_a0_), (0, 0, a0_, .ref q0_), (0, 2, a0_, .ref q1_)]) [4, 5, 6, 0, 1, 2, 3, 7, 8, 9] rfl
                                              exact ih4  y_153 y_146 1 0 x_56 x_148 x_137 y_54 (bd_sub b_154 (by decide)) (bd_sub kb_1 (by decide)) (bd_sub kb_0 (by decide)) h_149 h_138 (bd_sub b_55 (by decide)) (by have h9_0 := b_152; unfold bd at h9_0; have h9_1 := b_154; unfold bd at h9_1; have h9_2 := b_55; unfold bd at h9_2; have h9_3 := bdT v4_4; unfold bd at h9_3; have h9_4 := bdT v4_6; unfold bd at h9_4; have h9_5 := bdT x_56; unfold bd at h9_5; have h9_6 := bv4_2; unfold bd at h9_6; have h9_7 := bv4_3; unfold bd at h9_7; have h9_8 := bv4_5; unfold bd at h9_8; have h9_9 := bw4_0_10_a0_; unfold bd at h9_9; have h9_10 := bw4_0_8_a0_; unfold bd at h9_10; have h9_11 := bw4_7_6_q1_; unfold bd at h9_11; have h9_12 := h_138; unfold bd at h9_12; have h9_13 := h_149; unfold bd at h9_13; have h9_14 := kb_0; unfold bd at h9_14; have h9_15 := kb_1; unfold bd at h9_15; have h9_16 := kb_12; unfold bd at h9_16; have h9_17 := kb_205; unfold bd at h9_17; have h9_18 := kb_206; unfold bd at h9_18; have h9_19 := kb_300; unfold bd at h9_19; have h9_20 := kb_6; unfold bd at h9_20; have h9_21 := kb_7; unfold bd at h9_21; omega) _ _ _ _ g9  hl9
                                            · have fc_151 := nle_f c_151
                                              have b_155 : bd 13 2147483647 y_146 := ltR fc_151 kb_12 (bdT y_146) (by decide)
                                              refine lv_aload_n hx hb dX0_closeParts_227 rfl (lv_at hl 5 rfl) ?_
                                              refine g_getk (C := RX0) (T := TX0) (N := 14) hx hb hts (mc_ inX0) hown hK g rfl 0 (by decide) rfl (hts _ (List.mem_cons_of_mem _ t_373)) (fun _ h9 => h9) 8 rfl dX0_closeParts_228 ?_
                                              refine lv_bipush (v := 7) hx hb dX0_closeParts_231 (by decide) ?_
                                              refine lv_aload_n hx hb dX0_closeParts_233 rfl (lv_at hl 5 rfl) ?_
                                              refine g_getk (C := RX0) (T := TX0) (N := 14) hx hb hts (mc_ inX0) hown hK g rfl 4 (by decide) rfl (hts _ (List.mem_cons_of_mem _ t_377)) (fun _ h9 => h9) 6 rfl dX0_closeParts_234 ?_
                                              refine lv_aload_n hx hb dX0_closeParts_237 rfl (lv_at hl 5 rfl) ?_
                                              refine g_getk (C := RX0) (T := TX0) (N := 14) hx hb hts (mc_ inX0) hown hK g rfl 8 (by decide) rfl (hts _ (List.mem_cons_of_mem _ t_381)) (fun _ h9 => h9) 3 rfl dX0_closeParts_238 ?_
                                              refine g_iald hx hb hK g ma_37 ka_37 (by decide) rfl (in_bd b_55 (by decide)) dX0_closeParts_241 (fun x_156 bx_156 cx_156 => ?_)
                                              refine g_callv (va_runV (As := [.int 7, .int x_156]) (rest := []) ⟨hx, hb, hml, hown, hts⟩ (r_X8_fail_2 l dC dI L kd tys fr_147 H.size g.2.2.2.1 q0_ mq0_ kq0_ 7 (bd_sub kb_7 (by decide)) x_156 x_40 h_41 (g.fcts [5] rfl)) (cwV 2 hts (gV_ t_1215 t_1107 t_1108 t_184 t_1109) rfl rfl rfl (by decide +kernel) ⟨(Nat.le_of_ble_eq_true rfl), (Nat.le_of_ble_eq_true rfl)⟩) (pre3V g hK mq0_ kq0_ (by decide) (q := (RX8, TX8, 10)) rfl) rfl rfl hl.1 rfl (lv_room (Nat.le_of_ble_eq_true rfl)) dX0_closeParts_242 ⟨(Nat.le_of_ble_eq_true rfl), (Nat.le_of_ble_eq_true rfl)⟩) g hK (by decide) (by decide) (fx' := [(0, 12, a0_, .int 0), (0, 10, a0_, .int x_148), (7, 6, q1_, .int x_137), (0, 8, a0_, .int y_54), (8, 8, q0_, .int x_40), (0, 4, a0_, .ref a_37), (0, 3, a0_, .ref g76_0_3_a0_), (0, 0, a0_, .ref q0_), (0, 2, a0_, .ref q1_)]) rfl (fun fr_157 H locs hp hMr_157 g => ?_)
                                              have hF_158 := hp
                                              have g := g.more hF_158
                                              obtain ⟨y_159, ey_159⟩ : ∃ z : Int32, z = v4_3 + 1 := ⟨_, rfl⟩
                                              refine lv_iinc (v := y_159) (lv' := [(3, .int y_159), (6, .int y_146), (2, .int 1), (5, .int 0), (4, .int x_56), (0, .ref a0_), (1, .int x1_)]) hx hb dX0_closeParts_245 hl (k := 4) rfl (by rw [ey_159]; rfl) (by decide) rfl (fun ls hl => ?_)
                                              have ty_159 := add_bd ey_159 b_48 kb_1 (by decide)
                                              have b_160 : bd 2 300 y_159 := add_rg ty_159 b_48 kb_1 (by decide)
                                              refine lv_goto (tgt := 4) hx hb dX0_closeParts_248 (by decide) ?_
                                              have hl9 := lv_sub hl [0, 1, 2, 3, 4, 5, 6] (by rfl : lv_pick [(3, .int y_159), (6, .int y_146), (2, .int 1), (5, .int 0), (4, .int x_56), (0, .ref a0_), (1, .int x1_)] [0, 1, 2, 3, 4, 5, 6] = [(3, .int y_159), (6, .int y_146), (2, .int 1), (5, .int 0), (4, .int x_56), (0, .ref a0_), (1, .int x1_)])
                                              have g9 := g.sub (fx' := [(8, 6, q0_, .int 1201), (8, 8, q0_, .int x_40), (0, 4, a0_, .ref a_37), (0, 12, a0_, .int 0), (0, 10, a0_, .int x_148), (7, 6, q1_, .int x_137), (0, 8, a0_, .int y_54), (0, 3, a0_, .ref g76_0_3_a0_), (0, 0, a0_, .ref q0_), (0, 2, a0_, .ref q1_)]) [0, 5, 6, 1, 2, 3, 4, 7, 8, 9] rfl
                                              exact ih4  y_159 y_146 1 0 x_56 x_148 x_137 y_54 (bd_sub b_160 (by decide)) (bd_sub kb_1 (by decide)) (bd_sub kb_0 (by decide)) h_149 h_138 (bd_sub b_55 (by decide)) (by have h9_0 := b_155; unfold bd at h9_0; have h9_1 := b_160; unfold bd at h9_1; have h9_2 := b_55; unfold bd at h9_2; have h9_3 := bdT v4_4; unfold bd at h9_3; have h9_4 := bdT v4_6; unfold bd at h9_4; have h9_5 := bdT x_56; unfold bd at h9_5; have h9_6 := bv4_2; unfold bd at h9_6; have h9_7 := bv4_3; unfold bd at h9_7; have h9_8 := bv4_5; unfold bd at h9_8; have h9_9 := bw4_0_10_a0_; unfold bd at h9_9; have h9_10 := bw4_0_8_a0_; unfold bd at h9_10; have h9_11 := bw4_7_6_q1_; unfold bd at h9_11; have h9_12 := h_138; unfold bd at h9_12; have h9_13 := h_149; unfold bd at h9_13; have h9_14 := kb_0; unfold bd at h9_14; have h9_15 := kb_1; unfold bd at h9_15; have h9_16 := kb_12; unfold bd at h9_16; have h9_17 := kb_205; unfold bd at h9_17; have h9_18 := kb_206; unfold bd at h9_18; have h9_19 := kb_300; unfold bd at h9_19; have h9_20 := kb_6; unfold bd at h9_20; have h9_21 := kb_7; unfold bd at h9_21; omega) _ _ _ _ g9  hl9
                                          · have fc_135 := eq_f c_135
                                            have b_161 : bd 206 206 x_56 := eqX fc_135 (bdT x_56) kb_206 (by decide)
                                            refine lv_aload_n hx hb dX0_closeParts_152 rfl (lv_at hl 5 rfl) ?_
                                            refine g_getk (C := RX0) (T := TX0) (N := 14) hx hb hts (mc_ inX0) hown hK g rfl 2 (by decide) rfl (hts _ (List.mem_cons_of_mem _ t_375)) (fun _ h9 => h9) 9 rfl dX0_closeParts_153 ?_
                                            refine lv_bipush (v := 8) hx hb dX0_closeParts_156 (by decide) ?_
                                            refine lv_iconst (v := 0) hx hb dX0_closeParts_158 (by decide) ?_
                                            refine g_callv (va_runV (As := [.int 8, .int 0]) (rest := []) ⟨hx, hb, hml, hown, hts⟩ (r_X7_emit l dC dI L kd tys fr_101 H.size g.2.2.2.1 q1_ mq1_ kq1_ 8 0) (cwV 2 hts (gV_ t_1203 t_1204 t_1205 t_191 t_1206) rfl rfl rfl (by decide +kernel) ⟨(Nat.le_of_ble_eq_true rfl), (Nat.le_of_ble_eq_true rfl)⟩) (pre3V g hK mq1_ kq1_ (by decide) (q := (RX7, TX7, 19)) rfl) rfl rfl hl.1 rfl (lv_room (Nat.le_of_ble_eq_true rfl)) dX0_closeParts_159 ⟨(Nat.le_of_ble_eq_true rfl), (Nat.le_of_ble_eq_true rfl)⟩) g hK (by decide) (by decide) (fx' := [(0, 10, a0_, .int x_102), (0, 8, a0_, .int y_54), (8, 6, q0_, .int 1201), (8, 8, q0_, .int x_40), (0, 4, a0_, .ref a_37), (0, 12, a0_, .int 0), (0, 3, a0_, .ref g76_0_3_a0_), (0, 0, a0_, .ref q0_), (0, 2, a0_, .ref q1_)]) rfl (fun fr_162 H locs hp hMr_162 g => ?_)
                                            obtain ⟨x_163, h_164, hF_165⟩ := hp
                                            have g := g.more hF_165
                                            refine lv_aload_n hx hb dX0_closeParts_162 rfl (lv_at hl 5 rfl) ?_
                                            refine g_getk (C := RX0) (T := TX0) (N := 14) hx hb hts (mc_ inX0) hown hK g rfl 2 (by decide) rfl (hts _ (List.mem_cons_of_mem _ t_375)) (fun _ h9 => h9) 9 rfl dX0_closeParts_163 ?_
                                            refine lv_aload_n hx hb dX0_closeParts_166 rfl (lv_at hl 5 rfl) ?_
                                            refine g_getr (K := 112) (C := RX0) (T := TX0) (N := 14) hx hb hts (mc_ inX0) hown hK g ma0_ ka0_ (by decide) rfl 5 (by decide) rfl (hts _ (List.mem_cons_of_mem _ t_378)) (fun _ h9 => h9) rfl dX0_closeParts_167 (fun a_166 ma_166 ka_166 g => ?_)
                                            refine lv_aload_n hx hb dX0_closeParts_170 rfl (lv_at hl 5 rfl) ?_
                                            refine g_getk (C := RX0) (T := TX0) (N := 14) hx hb hts (mc_ inX0) hown hK g rfl 8 (by decide) rfl (hts _ (List.mem_cons_of_mem _ t_381)) (fun _ h9 => h9) 3 rfl dX0_closeParts_171 ?_
                                            refine g_iald hx hb hK g ma_166 ka_166 (by decide) rfl (in_bd b_55 (by decide)) dX0_closeParts_174 (fun x_167 bx_167 cx_167 => ?_)
                                            refine g_callv (va_runV (As := [.int x_167]) (rest := []) ⟨hx, hb, hml, hown, hts⟩ (r_X7_leadHere l dC dI L kd tys fr_162 H.size g.2.2.2.1 q1_ mq1_ kq1_ x_167) (cwV 1 hts (gV_ t_1207 t_1208 t_1209 t_191 t_1210) rfl rfl rfl (by decide +kernel) ⟨(Nat.le_of_ble_eq_true rfl), (Nat.le_of_ble_eq_true rfl)⟩) (pre3V g hK mq1_ kq1_ (by decide) (q := (RX7, TX7, 19)) rfl) rfl rfl hl.1 rfl (lv_room (Nat.le_of_ble_eq_true rfl)) dX0_closeParts_175 ⟨(Nat.le_of_ble_eq_true rfl), (Nat.le_of_ble_eq_true rfl)⟩) g hK (by decide) (by decide) (fx' := [(0, 5, a0_, .ref a_166), (7, 6, q1_, .int x_163), (0, 10, a0_, .int x_102), (0, 8, a0_, .int y_54), (8, 6, q0_, .int 1201), (8, 8, q0_, .int x_40), (0, 4, a0_, .ref a_37), (0, 12, a0_, .int 0), (0, 3, a0_, .ref g76_0_3_a0_), (0, 0, a0_, .ref q0_), (0, 2, a0_, .ref q1_)]) rfl (fun fr_168 H locs hp hMr_168 g => ?_)
                                            refine lv_goto (tgt := 191) hx hb dX0_closeParts_178 (by decide) ?_
                                            refine lv_iconst (v := 1) hx hb dX0_closeParts_191 (by decide) ?_
                                            refine lv_iload hx hb dX0_closeParts_192 (lv_at hl 2 rfl) ?_
                                            refine lv_if_eq (tgt := 202) hx hb dX0_closeParts_194 (by decide) (fun c_ => ?_) (fun c_ => absurd (by decide) c_)
                                            refine lv_iload hx hb dX0_closeParts_202 (lv_at hl 0 rfl) ?_
                                            refine lv_aload_n hx hb dX0_closeParts_204 rfl (lv_at hl 5 rfl) ?_
                                            refine g_calli (va_runV (As := []) (rest := [.int r_101, .int 1]) ⟨hx, hb, hml, hown, hts⟩ (r_X0_takeHeight l dC dI L kd tys fr_168 H.size g.2.2.2.1 a0_ ma0_ ka0_) (cwV 0 hts (gV_ t_1199 t_1201 t_16 t_190 t_1202) rfl rfl rfl (by decide +kernel) ⟨(Nat.le_of_ble_eq_true rfl), (Nat.le_of_ble_eq_true rfl)⟩) (pre3V g hK ma0_ ka0_ (by decide) (q := (RX0, TX0, 14)) rfl) rfl rfl hl.1 rfl (lv_room (Nat.le_of_ble_eq_true rfl)) dX0_closeParts_205 ⟨(Nat.le_of_ble_eq_true rfl), (Nat.le_of_ble_eq_true rfl)⟩) g hK (by decide) (by decide) (fx' := [(0, 5, a0_, .ref a_166), (7, 6, q1_, .int x_163), (0, 8, a0_, .int y_54), (8, 6, q0_, .int 1201), (8, 8, q0_, .int x_40), (0, 4, a0_, .ref a_37), (0, 12, a0_, .int 0), (0, 3, a0_, .ref g76_0_3_a0_), (0, 0, a0_, .ref q0_), (0, 2, a0_, .ref q1_)]) rfl (fun r_169 fr_169 H locs hp hMr_169 g => ?_)
                                            obtain ⟨x_170, h_171, hF_172⟩ := hp
                                            have g := g.more hF_172
                                            refine va_mmax hx hb (hml.trans hl.1.symm) hown (hts _ (List.mem_cons_of_mem _ t_1194)) (hts _ (List.mem_cons_of_mem _ t_1041)) (hts _ (List.mem_cons_of_mem _ t_204)) (hts _ (List.mem_cons_of_mem _ t_1042)) (Nat.le_of_ble_eq_true rfl) (Nat.le_of_ble_eq_true rfl) (Nat.le_of_ble_eq_true rfl) (Nat.le_of_ble_eq_true rfl) dX0_closeParts_208 ?_
                                            refine lv_topi (fun y_173 ey_173 => ?_)
                                            have ty_173 : y_173.toInt = max r_101.toInt r_169.toInt := by rw [ey_173]; exact mmax_ok _ _
                                            have b_174 : bd (-2147483648) 2147483647 y_173 := max_rg ty_173 (bdT r_101) (bdT r_169) (by decide)
                                            refine lv_iadd hx hb dX0_closeParts_211 ?_
                                            refine lv_topi (fun y_175 ey_175 => ?_)
                                            refine lv_istore (lv' := [(6, .int y_175), (2, .int 1), (5, .int 0), (4, .int x_56), (3, .int v4_3), (0, .ref a0_), (1, .int x1_)]) hx hb dX0_closeParts_212 hl (by decide) rfl (fun ls hl => ?_)
                                            refine lv_aload_n hx hb dX0_closeParts_214 rfl (lv_at hl 5 rfl) ?_
                                            refine lv_iload hx hb dX0_closeParts_215 (lv_at hl 0 rfl) ?_
                                            refine g_callv (va_runV (As := [.int y_175]) (rest := []) ⟨hx, hb, hml, hown, hts⟩ (r_X0_addWhole l dC dI L kd tys fr_169 H.size g.2.2.2.1 a0_ ma0_ ka0_ y_175) (cwV 1 hts (gV_ t_1211 t_1213 t_17 t_190 t_1214) rfl rfl rfl (by decide +kernel) ⟨(Nat.le_of_ble_eq_true rfl), (Nat.le_of_ble_eq_true rfl)⟩) (pre3V g hK ma0_ ka0_ (by decide) (q := (RX0, TX0, 14)) rfl) rfl rfl hl.1 rfl (lv_room (Nat.le_of_ble_eq_true rfl)) dX0_closeParts_217 ⟨(Nat.le_of_ble_eq_true rfl), (Nat.le_of_ble_eq_true rfl)⟩) g hK (by decide) (by decide) (fx' := [(0, 5, a0_, .ref a_166), (7, 6, q1_, .int x_163), (0, 8, a0_, .int y_54), (8, 6, q0_, .int 1201), (8, 8, q0_, .int x_40), (0, 4, a0_, .ref a_37), (0, 3, a0_, .ref g76_0_3_a0_), (0, 0, a0_, .ref q0_), (0, 2, a0_, .ref q1_)]) rfl (fun fr_176 H locs hp hMr_176 g => ?_)
                                            obtain ⟨x_177, h_178, hF_179⟩ := hp
                                            have g := g.more hF_179
                                            refine lv_iload hx hb dX0_closeParts_220 (lv_at hl 0 rfl) ?_
                                            refine lv_bipush (v := 12) hx hb dX0_closeParts_222 (by decide) ?_
                                            refine lv_icmp_le (tgt := 245) hx hb dX0_closeParts_224 (by decide) (fun c_180 => ?_) (fun c_180 => ?_)
                                            · have fc_180 := le_f c_180
                                              have b_181 : bd (-2147483648) 12 y_175 := leL fc_180 (bdT y_175) kb_12 (by decide)
                                              obtain ⟨y_182, ey_182⟩ : ∃ z : Int32, z = v4_3 + 1 := ⟨_, rfl⟩
                                              refine lv_iinc (v := y_182) (lv' := [(3, .int y_182), (6, .int y_175), (2, .int 1), (5, .int 0), (4, .int x_56), (0, .ref a0_), (1, .int x1_)]) hx hb dX0_closeParts_245 hl (k := 4) rfl (by rw [ey_182]; rfl) (by decide) rfl (fun ls hl => ?_)
                                              have ty_182 := add_bd ey_182 b_48 kb_1 (by decide)
                                              have b_183 : bd 2 300 y_182 := add_rg ty_182 b_48 kb_1 (by decide)
                                              refine lv_goto (tgt := 4) hx hb dX0_closeParts_248 (by decide) ?_
                                              have hl9 := lv_sub hl [0, 1, 2, 3, 4, 5, 6] (by rfl : lv_pick [(3, .int y_182), (6, .int y_175), (2, .int 1), (5, .int 0), (4, .int x_56), (0, .ref a0_), (1, .int x1_)] [0, 1, 2, 3, 4, 5, 6] = [(3, .int y_182), (6, .int y_175), (2, .int 1), (5, .int 0), (4, .int x_56), (0, .ref a0_), (1, .int x1_)])
                                              have g9 := g.sub (fx' := [(8, 6, q0_, .int 1201), (8, 8, q0_, .int x_40), (0, 4, a0_, .ref a_37), (0, 12, a0_, .int 0), (0, 10, a0_, .int x_177), (7, 6, q1_, .int x_163), (0, 8, a0_, .int y_54), (0, 3, a0_, .ref g76_0_3_a0_), (0, 0, a0_, .ref q0_), (0, 2, a0_, .ref q1_)]) [5, 6, 7, 0, 1, 3, 4, 8, 9, 10] rfl
                                              exact ih4  y_182 y_175 1 0 x_56 x_177 x_163 y_54 (bd_sub b_183 (by decide)) (bd_sub kb_1 (by decide)) (bd_sub kb_0 (by decide)) h_178 h_164 (bd_sub b_55 (by decide)) (by have h9_0 := b_161; unfold bd at h9_0; have h9_1 := b_181; unfold bd at h9_1; have h9_2 := b_183; unfold bd at h9_2; have h9_3 := b_55; unfold bd at h9_3; have h9_4 := bdT v4_4; unfold bd at h9_4; have h9_5 := bdT v4_6; unfold bd at h9_5; have h9_6 := bv4_2; unfold bd at h9_6; have h9_7 := bv4_3; unfold bd at h9_7; have h9_8 := bv4_5; unfold bd at h9_8; have h9_9 := bw4_0_10_a0_; unfold bd at h9_9; have h9_10 := bw4_0_8_a0_; unfold bd at h9_10; have h9_11 := bw4_7_6_q1_; unfold bd at h9_11; have h9_12 := h_164; unfold bd at h9_12; have h9_13 := h_178; unfold bd at h9_13; have h9_14 := kb_0; unfold bd at h9_14; have h9_15 := kb_1; unfold bd at h9_15; have h9_16 := kb_12; unfold bd at h9_16; have h9_17 := kb_205; unfold bd at h9_17; have h9_18 := kb_206; unfold bd at h9_18; have h9_19 := kb_300; unfold bd at h9_19; have h9_20 := kb_6; unfold bd at h9_20; have h9_21 := kb_7; unfold bd at h9_21; omega) _ _ _ _ g9  hl9
                                            · have fc_180 := nle_f c_180
                                              have b_184 : bd 13 2147483647 y_175 := ltR fc_180 kb_12 (bdT y_175) (by decide)
                                              refine lv_aload_n hx hb dX0_closeParts_227 rfl (lv_at hl 5 rfl) ?_
                                              refine g_getk (C := RX0) (T := TX0) (N := 14) hx hb hts (mc_ inX0) hown hK g rfl 0 (by decide) rfl (hts _ (List.mem_cons_of_mem _ t_373)) (fun _ h9 => h9) 9 rfl dX0_closeParts_228 ?_
                                              refine lv_bipush (v := 7) hx hb dX0_closeParts_231 (by decide) ?_
                                              refine lv_aload_n hx hb dX0_closeParts_233 rfl (lv_at hl 5 rfl) ?_
                                              refine g_getk (C := RX0) (T := TX0) (N := 14) hx hb hts (mc_ inX0) hown hK g rfl 4 (by decide) rfl (hts _ (List.mem_cons_of_mem _ t_377)) (fun _ h9 => h9) 7 rfl dX0_closeParts_234 ?_
                                              refine lv_aload_n hx hb dX0_closeParts_237 rfl (lv_at hl 5 rfl) ?_
                                              refine g_getk (C := RX0) (T := TX0) (N := 14) hx hb hts (mc_ inX0) hown hK g rfl 8 (by decide) rfl (hts _ (List.mem_cons_of_mem _ t_381)) (fun _ h9 => h9) 4 rfl dX0_closeParts_238 ?_
                                              refine g_iald hx hb hK g ma_37 ka_37 (by decide) rfl (in_bd b_55 (by decide)) dX0_closeParts_241 (fun x_185 bx_185 cx_185 => ?_)
                                              refine g_callv (va_runV (As := [.int 7, .int x_185]) (rest := []) ⟨hx, hb, hml, hown, hts⟩ (r_X8_fail_2 l dC dI L kd tys fr_176 H.size g.2.2.2.1 q0_ mq0_ kq0_ 7 (bd_sub kb_7 (by decide)) x_185 x_40 h_41 (g.fcts [6] rfl)) (cwV 2 hts (gV_ t_1215 t_1107 t_1108 t_184 t_1109) rfl rfl rfl (by decide +kernel) ⟨(Nat.le_of_ble_eq_true rfl), (Nat.le_of_ble_eq_true rfl)⟩) (pre3V g hK mq0_ kq0_ (by decide) (q := (RX8, TX8, 10)) rfl) rfl rfl hl.1 rfl (lv_room (Nat.le_of_ble_eq_true rfl)) dX0_closeParts_242 ⟨(Nat.le_of_ble_eq_true rfl), (Nat.le_of_ble_eq_true rfl)⟩) g hK (by decide) (by decide) (fx' := [(0, 12, a0_, .int 0), (0, 10, a0_, .int x_177), (0, 5, a0_, .ref a_166), (7, 6, q1_, .int x_163), (0, 8, a0_, .int y_54), (8, 8, q0_, .int x_40), (0, 4, a0_, .ref a_37), (0, 3, a0_, .ref g76_0_3_a0_), (0, 0, a0_, .ref q0_), (0, 2, a0_, .ref q1_)]) rfl (fun fr_186 H locs hp hMr_186 g => ?_)
                                              have hF_187 := hp
                                              have g := g.more hF_187
                                              obtain ⟨y_188, ey_188⟩ : ∃ z : Int32, z = v4_3 + 1 := ⟨_, rfl⟩
                                              refine lv_iinc (v := y_188) (lv' := [(3, .int y_188), (6, .int y_175), (2, .int 1), (5, .int 0), (4, .int x_56), (0, .ref a0_), (1, .int x1_)]) hx hb dX0_closeParts_245 hl (k := 4) rfl (by rw [ey_188]; rfl) (by decide) rfl (fun ls hl => ?_)
                                              have ty_188 := add_bd ey_188 b_48 kb_1 (by decide)
                                              have b_189 : bd 2 300 y_188 := add_rg ty_188 b_48 kb_1 (by decide)
                                              refine lv_goto (tgt := 4) hx hb dX0_closeParts_248 (by decide) ?_
                                              have hl9 := lv_sub hl [0, 1, 2, 3, 4, 5, 6] (by rfl : lv_pick [(3, .int y_188), (6, .int y_175), (2, .int 1), (5, .int 0), (4, .int x_56), (0, .ref a0_), (1, .int x1_)] [0, 1, 2, 3, 4, 5, 6] = [(3, .int y_188), (6, .int y_175), (2, .int 1), (5, .int 0), (4, .int x_56), (0, .ref a0_), (1, .int x1_)])
                                              have g9 := g.sub (fx' := [(8, 6, q0_, .int 1201), (8, 8, q0_, .int x_40), (0, 4, a0_, .ref a_37), (0, 12, a0_, .int 0), (0, 10, a0_, .int x_177), (7, 6, q1_, .int x_163), (0, 8, a0_, .int y_54), (0, 3, a0_, .ref g76_0_3_a0_), (0, 0, a0_, .ref q0_), (0, 2, a0_, .ref q1_)]) [0, 6, 7, 1, 2, 4, 5, 8, 9, 10] rfl
                                              exact ih4  y_188 y_175 1 0 x_56 x_177 x_163 y_54 (bd_sub b_189 (by decide)) (bd_sub kb_1 (by decide)) (bd_sub kb_0 (by decide)) h_178 h_164 (bd_sub b_55 (by decide)) (by have h9_0 := b_161; unfold bd at h9_0; have h9_1 := b_184; unfold bd at h9_1; have h9_2 := b_189; unfold bd at h9_2; have h9_3 := b_55; unfold bd at h9_3; have h9_4 := bdT v4_4; unfold bd at h9_4; have h9_5 := bdT v4_6; unfold bd at h9_5; have h9_6 := bv4_2; unfold bd at h9_6; have h9_7 := bv4_3; unfold bd at h9_7; have h9_8 := bv4_5; unfold bd at h9_8; have h9_9 := bw4_0_10_a0_; unfold bd at h9_9; have h9_10 := bw4_0_8_a0_; unfold bd at h9_10; have h9_11 := bw4_7_6_q1_; unfold bd at h9_11; have h9_12 := h_164; unfold bd at h9_12; have h9_13 := h_178; unfold bd at h9_13; have h9_14 := kb_0; unfold bd at h9_14; have h9_15 := kb_1; unfold bd at h9_15; have h9_16 := kb_12; unfold bd at h9_16; have h9_17 := kb_205; unfold bd at h9_17; have h9_18 := kb_206; unfold bd at h9_18; have h9_19 := kb_300; unfold bd at h9_19; have h9_20 := kb_6; unfold bd at h9_20; have h9_21 := kb_7; unfold bd at h9_21; omega) _ _ _ _ g9  hl9
                                    · have b_190 : bd 37 206 x_56 := eqX rfl (bdT x_56) h_93 (by decide)
                                      refine lv_iload_n hx hb dX0_closeParts_66 rfl (lv_at hl 6 rfl) ?_
                                      refine lv_icmp_lt (tgt := 74) hx hb dX0_closeParts_67 (by decide) (fun c_191 => ?_) (fun c_191 => ?_)
                                      · have fc_191 := lt_f c_191
                                        have b_192 : bd 2 2147483647 x1_ := ltR fc_191 h_92 (bdT x1_) (by decide)
                                        refine lv_iconst (v := 0) hx hb dX0_closeParts_74 (by decide) ?_
                                        refine lv_istore_n (lv' := [(2, .int 0), (5, .int 0), (4, .int x_56), (3, .int v4_3), (6, .int v4_6), (0, .ref a0_), (1, .int x1_)]) hx hb dX0_closeParts_75 rfl hl (by decide) rfl (fun ls hl => ?_)
                                        refine lv_iload_n hx hb dX0_closeParts_76 rfl (lv_at hl 0 rfl) ?_
                                        refine lv_if_eq (tgt := 245) hx hb dX0_closeParts_77 (by decide) (fun c_ => ?_) (fun c_ => absurd (by decide) c_)
                                        obtain ⟨y_193, ey_193⟩ : ∃ z : Int32, z = v4_3 + 1 := ⟨_, rfl⟩
                                        refine lv_iinc (v := y_193) (lv' := [(3, .int y_193), (2, .int 0), (5, .int 0), (4, .int x_56), (6, .int v4_6), (0, .ref a0_), (1, .int x1_)]) hx hb dX0_closeParts_245 hl (k := 3) rfl (by rw [ey_193]; rfl) (by decide) rfl (fun ls hl => ?_)
                                        have ty_193 := add_bd ey_193 b_48 kb_1 (by decide)
                                        have b_194 : bd 2 300 y_193 := add_rg ty_193 b_48 kb_1 (by decide)
                                        refine lv_goto (tgt := 4) hx hb dX0_closeParts_248 (by decide) ?_
                                        have hl9 := lv_sub hl [0, 4, 1, 2, 3, 5, 6] (by rfl : lv_pick [(3, .int y_193), (2, .int 0), (5, .int 0), (4, .int x_56), (6, .int v4_6), (0, .ref a0_), (1, .int x1_)] [0, 4, 1, 2, 3, 5, 6] = [(3, .int y_193), (6, .int v4_6), (2, .int 0), (5, .int 0), (4, .int x_56), (0, .ref a0_), (1, .int x1_)])
                                        have g9 := g.sub (fx' := [(8, 6, q0_, .int 1201), (8, 8, q0_, .int x_40), (0, 4, a0_, .ref a_37), (0, 12, a0_, .int 0), (0, 10, a0_, .int w4_0_10_a0_), (7, 6, q1_, .int w4_7_6_q1_), (0, 8, a0_, .int w4_0_8_a0_), (0, 3, a0_, .ref g76_0_3_a0_), (0, 0, a0_, .ref q0_), (0, 2, a0_, .ref q1_)]) [0, 1, 2, 3, 4, 5, 6, 7, 8, 9] rfl
                                        exact ih4  y_193 v4_6 0 0 x_56 w4_0_10_a0_ w4_7_6_q1_ w4_0_8_a0_ (bd_sub b_194 (by decide)) (bd_sub kb_0 (by decide)) (bd_sub kb_0 (by decide)) bw4_0_10_a0_ bw4_7_6_q1_ (bd_sub b_53 (by decide)) (by have h9_0 := b_190; unfold bd at h9_0; have h9_1 := b_194; unfold bd at h9_1; have h9_2 := b_53; unfold bd at h9_2; have h9_3 := bdT v4_4; unfold bd at h9_3; have h9_4 := bdT v4_6; unfold bd at h9_4; have h9_5 := bv4_2; unfold bd at h9_5; have h9_6 := bv4_3; unfold bd at h9_6; have h9_7 := bv4_5; unfold bd at h9_7; have h9_8 := bw4_0_10_a0_; unfold bd at h9_8; have h9_9 := bw4_0_8_a0_; unfold bd at h9_9; have h9_10 := bw4_7_6_q1_; unfold bd at h9_10; have h9_11 := kb_0; unfold bd at h9_11; have h9_12 := kb_1; unfold bd at h9_12; have h9_13 := kb_12; unfold bd at h9_13; have h9_14 := kb_300; unfold bd at h9_14; have h9_15 := kb_6; unfold bd at h9_15; have h9_16 := kb_7; unfold bd at h9_16; omega) _ _ _ _ g9  hl9
                                      · have fc_191 := nlt_f c_191
                                        have b_195 : bd (-2147483648) 5 x1_ := leL fc_191 (bdT x1_) h_92 (by decide)
                                        refine lv_iconst (v := 1) hx hb dX0_closeParts_70 (by decide) ?_
                                        refine lv_goto (tgt := 75) hx hb dX0_closeParts_71 (by decide) ?_
                                        refine lv_istore_n (lv' := [(2, .int 1), (5, .int 0), (4, .int x_56), (3, .int v4_3), (6, .int v4_6), (0, .ref a0_), (1, .int x1_)]) hx hb dX0_closeParts_75 rfl hl (by decide) rfl (fun ls hl => ?_)
                                        refine lv_iload_n hx hb dX0_closeParts_76 rfl (lv_at hl 0 rfl) ?_
                                        refine lv_if_eq (tgt := 245) hx hb dX0_closeParts_77 (by decide) (fun c_ => absurd c_ (by decide)) (fun c_ => ?_)
                                        refine lv_aload_n hx hb dX0_closeParts_80 rfl (lv_at hl 5 rfl) ?_
                                        refine lv_dup hx hb dX0_closeParts_81 rfl ?_
                                        refine g_getk (C := RX0) (T := TX0) (N := 14) hx hb hts (mc_ inX0) hown hK g rfl 8 (by decide) rfl (hts _ (List.mem_cons_of_mem _ t_381)) (fun _ h9 => h9) 6 rfl dX0_closeParts_82 ?_
                                        refine lv_iconst (v := 1) hx hb dX0_closeParts_85 (by decide) ?_
                                        refine lv_isub hx hb dX0_closeParts_86 ?_
                                        refine lv_topi (fun y_196 ey_196 => ?_)
                                        obtain rfl : y_54 = y_196 := ey_54.trans ey_196.symm
                                        refine g_put (C := RX0) (T := TX0) (N := 14) hx hb hts (mc_ inX0) tyX0 tyX0_ok nmX0 hown hK g ma0_ ka0_ (by decide) rfl 8 (by decide) (hts _ (List.mem_cons_of_mem _ t_381)) (fun _ h9 => h9) rfl rfl (okV_i (bd_sub b_55 (by decide))) rfl rfl (by decide) (Or.inr (Or.inl (by decide))) (fx' := [(8, 6, q0_, .int 1201), (8, 8, q0_, .int x_40), (0, 4, a0_, .ref a_37), (0, 12, a0_, .int 0), (0, 10, a0_, .int w4_0_10_a0_), (7, 6, q1_, .int w4_7_6_q1_), (0, 3, a0_, .ref g76_0_3_a0_), (0, 0, a0_, .ref q0_), (0, 2, a0_, .ref q1_)]) rfl dX0_closeParts_87 (fun f H locs hM_197 g => ?_)
                                        refine lv_aload_n hx hb dX0_closeParts_90 rfl (lv_at hl 5 rfl) ?_
                                        refine g_calli (va_runV (As := []) (rest := []) ⟨hx, hb, hml, hown, hts⟩ (r_X0_takeHeight l dC dI L kd tys f H.size g.2.2.2.1 a0_ ma0_ ka0_) (cwV 0 hts (gV_ t_1199 t_1201 t_16 t_190 t_1202) rfl rfl rfl (by decide +kernel) ⟨(Nat.le_of_ble_eq_true rfl), (Nat.le_of_ble_eq_true rfl)⟩) (pre3V g hK ma0_ ka0_ (by decide) (q := (RX0, TX0, 14)) rfl) rfl rfl hl.1 rfl (lv_room (Nat.le_of_ble_eq_true rfl)) dX0_closeParts_91 ⟨(Nat.le_of_ble_eq_true rfl), (Nat.le_of_ble_eq_true rfl)⟩) g hK (by decide) (by decide) (fx' := [(0, 8, a0_, .int y_54), (8, 6, q0_, .int 1201), (8, 8, q0_, .int x_40), (0, 4, a0_, .ref a_37), (0, 12, a0_, .int 0), (7, 6, q1_, .int w4_7_6_q1_), (0, 3, a0_, .ref g76_0_3_a0_), (0, 0, a0_, .ref q0_), (0, 2, a0_, .ref q1_)]) rfl (fun r_198 fr_198 H locs hp hMr_198 g => ?_)
                                        obtain ⟨x_199, h_200, hF_201⟩ := hp
                                        have g := g.more hF_201
                                        refine lv_istore (lv' := [(6, .int r_198), (2, .int 1), (5, .int 0), (4, .int x_56), (3, .int v4_3), (0, .ref a0_), (1, .int x1_)]) hx hb dX0_closeParts_94 hl (by decide) rfl (fun ls hl => ?_)
                                        refine lv_iload hx hb dX0_closeParts_96 (lv_at hl 2 rfl) ?_
                                        refine lv_if_eq (tgt := 136) hx hb dX0_closeParts_98 (by decide) (fun c_ => ?_) (fun c_ => absurd (by decide) c_)
                                        refine lv_iload hx hb dX0_closeParts_136 (lv_at hl 3 rfl) ?_
                                        refine lv_sipush (v := 205) hx hb dX0_closeParts_138 (by decide) ?_
                                        have kb_205 : bd 205 205 (205 : Int32) := ⟨by decide, by decide⟩
                                        refine lv_icmp_eq (tgt := 152) hx hb dX0_closeParts_141 (by decide) (fun c_202 => ?_) (fun c_202 => ?_)
                                        · have fc_202 := eq_f c_202
                                          have b_203 : bd 205 205 x_56 := eqX fc_202 b_190 kb_205 (by decide)
                                          refine lv_aload_n hx hb dX0_closeParts_152 rfl (lv_at hl 5 rfl) ?_
                                          refine g_getk (C := RX0) (T := TX0) (N := 14) hx hb hts (mc_ inX0) hown hK g rfl 2 (by decide) rfl (hts _ (List.mem_cons_of_mem _ t_375)) (fun _ h9 => h9) 9 rfl dX0_closeParts_153 ?_
                                          refine lv_bipush (v := 8) hx hb dX0_closeParts_156 (by decide) ?_
                                          refine lv_iconst (v := 0) hx hb dX0_closeParts_158 (by decide) ?_
                                          refine g_callv (va_runV (As := [.int 8, .int 0]) (rest := []) ⟨hx, hb, hml, hown, hts⟩ (r_X7_emit l dC dI L kd tys fr_198 H.size g.2.2.2.1 q1_ mq1_ kq1_ 8 0) (cwV 2 hts (gV_ t_1203 t_1204 t_1205 t_191 t_1206) rfl rfl rfl (by decide +kernel) ⟨(Nat.le_of_ble_eq_true rfl), (Nat.le_of_ble_eq_true rfl)⟩) (pre3V g hK mq1_ kq1_ (by decide) (q := (RX7, TX7, 19)) rfl) rfl rfl hl.1 rfl (lv_room (Nat.le_of_ble_eq_true rfl)) dX0_closeParts_159 ⟨(Nat.le_of_ble_eq_true rfl), (Nat.le_of_ble_eq_true rfl)⟩) g hK (by decide) (by decide) (fx' := [(0, 10, a0_, .int x_199), (0, 8, a0_, .int y_54), (8, 6, q0_, .int 1201), (8, 8, q0_, .int x_40), (0, 4, a0_, .ref a_37), (0, 12, a0_, .int 0), (0, 3, a0_, .ref g76_0_3_a0_), (0, 0, a0_, .ref q0_), (0, 2, a0_, .ref q1_)]) rfl (fun fr_204 H locs hp hMr_204 g => ?_)
                                          obtain ⟨x_205, h_206, hF_207⟩ := hp
                                          have g := g.more hF_207
                                          refine lv_aload_n hx hb dX0_closeParts_162 rfl (lv_at hl 5 rfl) ?_
                                          refine g_getk (C := RX0) (T := TX0) (N := 14) hx hb hts (mc_ inX0) hown hK g rfl 2 (by decide) rfl (hts _ (List.mem_cons_of_mem _ t_375)) (fun _ h9 => h9) 9 rfl dX0_closeParts_163 ?_
                                          refine lv_aload_n hx hb dX0_closeParts_166 rfl (lv_at hl 5 rfl) ?_
                                          refine g_getr (K := 112) (C := RX0) (T := TX0) (N := 14) hx hb hts (mc_ inX0) hown hK g ma0_ ka0_ (by decide) rfl 5 (by decide) rfl (hts _ (List.mem_cons_of_mem _ t_378)) (fun _ h9 => h9) rfl dX0_closeParts_167 (fun a_208 ma_208 ka_208 g => ?_)
                                          refine lv_aload_n hx hb dX0_closeParts_170 rfl (lv_at hl 5 rfl) ?_
                                          refine g_getk (C := RX0) (T := TX0) (N := 14) hx hb hts (mc_ inX0) hown hK g rfl 8 (by decide) rfl (hts _ (List.mem_cons_of_mem _ t_381)) (fun _ h9 => h9) 3 rfl dX0_closeParts_171 ?_
                                          refine g_iald hx hb hK g ma_208 ka_208 (by decide) rfl (in_bd b_55 (by decide)) dX0_closeParts_174 (fun x_209 bx_209 cx_209 => ?_)
                                          refine g_callv (va_runV (As := [.int x_209]) (rest := []) ⟨hx, hb, hml, hown, hts⟩ (r_X7_leadHere l dC dI L kd tys fr_204 H.size g.2.2.2.1 q1_ mq1_ kq1_ x_209) (cwV 1 hts (gV_ t_1207 t_1208 t_1209 t_191 t_1210) rfl rfl rfl (by decide +kernel) ⟨(Nat.le_of_ble_eq_true rfl), (Nat.le_of_ble_eq_true rfl)⟩) (pre3V g hK mq1_ kq1_ (by decide) (q := (RX7, TX7, 19)) rfl) rfl rfl hl.1 rfl (lv_room (Nat.le_of_ble_eq_true rfl)) dX0_closeParts_175 ⟨(Nat.le_of_ble_eq_true rfl), (Nat.le_of_ble_eq_true rfl)⟩) g hK (by decide) (by decide) (fx' := [(0, 5, a0_, .ref a_208), (7, 6, q1_, .int x_205), (0, 10, a0_, .int x_199), (0, 8, a0_, .int y_54), (8, 6, q0_, .int 1201), (8, 8, q0_, .int x_40), (0, 4, a0_, .ref a_37), (0, 12, a0_, .int 0), (0, 3, a0_, .ref g76_0_3_a0_), (0, 0, a0_, .ref q0_), (0, 2, a0_, .ref q1_)]) rfl (fun fr_210 H locs hp hMr_210 g => ?_)
                                          refine lv_goto (tgt := 191) hx hb dX0_closeParts_178 (by decide) ?_
                                          refine lv_iconst (v := 1) hx hb dX0_closeParts_191 (by decide) ?_
                                          refine lv_iload hx hb dX0_closeParts_192 (lv_at hl 2 rfl) ?_
                                          refine lv_if_eq (tgt := 202) hx hb dX0_closeParts_194 (by decide) (fun c_ => ?_) (fun c_ => absurd (by decide) c_)
                                          refine lv_iload hx hb dX0_closeParts_202 (lv_at hl 0 rfl) ?_
                                          refine lv_aload_n hx hb dX0_closeParts_204 rfl (lv_at hl 5 rfl) ?_
                                          refine g_calli (va_runV (As := []) (rest := [.int r_198, .int 1]) ⟨hx, hb, hml, hown, hts⟩ (r_X0_takeHeight l dC dI L kd tys fr_210 H.size g.2.2.2.1 a0_ ma0_ ka0_) (cwV 0 hts (gV_ t_1199 t_1201 t_16 t_190 t_1202) rfl rfl rfl (by decide +kernel) ⟨(Nat.le_of_ble_eq_true rfl), (Nat.le_of_ble_eq_true rfl)⟩) (pre3V g hK ma0_ ka0_ (by decide) (q := (RX0, TX0, 14)) rfl) rfl rfl hl.1 rfl (lv_room (Nat.le_of_ble_eq_true rfl)) dX0_closeParts_205 ⟨(Nat.le_of_ble_eq_true rfl), (Nat.le_of_ble_eq_true rfl)⟩) g hK (by decide) (by decide) (fx' := [(0, 5, a0_, .ref a_208), (7, 6, q1_, .int x_205), (0, 8, a0_, .int y_54), (8, 6, q0_, .int 1201), (8, 8, q0_, .int x_40), (0, 4, a0_, .ref a_37), (0, 12, a0_, .int 0), (0, 3, a0_, .ref g76_0_3_a0_), (0, 0, a0_, .ref q0_), (0, 2, a0_, .ref q1_)]) rfl (fun r_211 fr_211 H locs hp hMr_211 g => ?_)
                                          obtain ⟨x_212, h_213, hF_214⟩ := hp
                                          have g := g.more hF_214
                                          refine va_mmax hx hb (hml.trans hl.1.symm) hown (hts _ (List.mem_cons_of_mem _ t_1194)) (hts _ (List.mem_cons_of_mem _ t_1041)) (hts _ (List.mem_cons_of_mem _ t_204)) (hts _ (List.mem_cons_of_mem _ t_1042)) (Nat.le_of_ble_eq_true rfl) (Nat.le_of_ble_eq_true rfl) (Nat.le_of_ble_eq_true rfl) (Nat.le_of_ble_eq_true rfl) dX0_closeParts_208 ?_
                                          refine lv_topi (fun y_215 ey_215 => ?_)
                                          have ty_215 : y_215.toInt = max r_198.toInt r_211.toInt := by rw [ey_215]; exact mmax_ok _ _
                                          have b_216 : bd (-2147483648) 2147483647 y_215 := max_rg ty_215 (bdT r_198) (bdT r_211) (by decide)
                                          refine lv_iadd hx hb dX0_closeParts_211 ?_
                                          refine lv_topi (fun y_217 ey_217 => ?_)
                                          refine lv_istore (lv' := [(6, .int y_217), (2, .int 1), (5, .int 0), (4, .int x_56), (3, .int v4_3), (0, .ref a0_), (1, .int x1_)]) hx hb dX0_closeParts_212 hl (by decide) rfl (fun ls hl => ?_)
                                          refine lv_aload_n hx hb dX0_closeParts_214 rfl (lv_at hl 5 rfl) ?_
                                          refine lv_iload hx hb dX0_closeParts_215 (lv_at hl 0 rfl) ?_
                                          refine g_callv (va_runV (As := [.int y_217]) (rest := []) ⟨hx, hb, hml, hown, hts⟩ (r_X0_addWhole l dC dI L kd tys fr_211 H.size g.2.2.2.1 a0_ ma0_ ka0_ y_217) (cwV 1 hts (gV_ t_1211 t_1213 t_17 t_190 t_1214) rfl rfl rfl (by decide +kernel) ⟨(Nat.le_of_ble_eq_true rfl), (Nat.le_of_ble_eq_true rfl)⟩) (pre3V g hK ma0_ ka0_ (by decide) (q := (RX0, TX0, 14)) rfl) rfl rfl hl.1 rfl (lv_room (Nat.le_of_ble_eq_true rfl)) dX0_closeParts_217 ⟨(Nat.le_of_ble_eq_true rfl), (Nat.le_of_ble_eq_true rfl)⟩) g hK (by decide) (by decide) (fx' := [(0, 5, a0_, .ref a_208), (7, 6, q1_, .int x_205), (0, 8, a0_, .int y_54), (8, 6, q0_, .int 1201), (8, 8, q0_, .int x_40), (0, 4, a0_, .ref a_37), (0, 3, a0_, .ref g76_0_3_a0_), (0, 0, a0_, .ref q0_), (0, 2, a0_, .ref q1_)]) rfl (fun fr_218 H locs hp hMr_218 g => ?_)
                                          obtain ⟨x_219, h_220, hF_221⟩ := hp
                                          have g := g.more hF_221
                                          refine lv_iload hx hb dX0_closeParts_220 (lv_at hl 0 rfl) ?_
                                          refine lv_bipush (v := 12) hx hb dX0_closeParts_222 (by decide) ?_
                                          refine lv_icmp_le (tgt := 245) hx hb dX0_closeParts_224 (by decide) (fun c_222 => ?_) (fun c_222 => ?_)
                                          · have fc_222 := le_f c_222
                                            have b_223 : bd (-2147483648) 12 y_217 := leL fc_222 (bdT y_217) kb_12 (by decide)
                                            obtain ⟨y_224, ey_224⟩ : ∃ z : Int32, z = v4_3 + 1 := ⟨_, rfl⟩
                                            refine lv_iinc (v := y_224) (lv' := [(3, .int y_224), (6, .int y_217), (2, .int 1), (5, .int 0), (4, .int x_56), (0, .ref a0_), (1, .int x1_)]) hx hb dX0_closeParts_245 hl (k := 4) rfl (by rw [ey_224]; rfl) (by decide) rfl (fun ls hl => ?_)
                                            have ty_224 := add_bd ey_224 b_48 kb_1 (by decide)
                                            have b_225 : bd 2 300 y_224 := add_rg ty_224 b_48 kb_1 (by decide)
                                            refine lv_goto (tgt := 4) hx hb dX0_closeParts_248 (by decide) ?_
                                            have hl9 := lv_sub hl [0, 1, 2, 3, 4, 5, 6] (by rfl : lv_pick [(3, .int y_224), (6, .int y_217), (2, .int 1), (5, .int 0), (4, .int x_56), (0, .ref a0_), (1, .int x1_)] [0, 1, 2, 3, 4, 5, 6] = [(3, .int y_224), (6, .int y_217), (2, .int 1), (5, .int 0), (4, .int x_56), (0, .ref a0_), (1, .int x1_)])
                                            have g9 := g.sub (fx' := [(8, 6, q0_, .int 1201), (8, 8, q0_, .int x_40), (0, 4, a0_, .ref a_37), (0, 12, a0_, .int 0), (0, 10, a0_, .int x_219), (7, 6, q1_, .int x_205), (0, 8, a0_, .int y_54), (0, 3, a0_, .ref g76_0_3_a0_), (0, 0, a0_, .ref q0_), (0, 2, a0_, .ref q1_)]) [5, 6, 7, 0, 1, 3, 4, 8, 9, 10] rfl
                                            exact ih4  y_224 y_217 1 0 x_56 x_219 x_205 y_54 (bd_sub b_225 (by decide)) (bd_sub kb_1 (by decide)) (bd_sub kb_0 (by decide)) h_220 h_206 (bd_sub b_55 (by decide)) (by have h9_0 := b_203; unfold bd at h9_0; have h9_1 := b_223; unfold bd at h9_1; have h9_2 := b_225; unfold bd at h9_2; have h9_3 := b_55; unfold bd at h9_3; have h9_4 := bdT v4_4; unfold bd at h9_4; have h9_5 := bdT v4_6; unfold bd at h9_5; have h9_6 := bv4_2; unfold bd at h9_6; have h9_7 := bv4_3; unfold bd at h9_7; have h9_8 := bv4_5; unfold bd at h9_8; have h9_9 := bw4_0_10_a0_; unfold bd at h9_9; have h9_10 := bw4_0_8_a0_; unfold bd at h9_10; have h9_11 := bw4_7_6_q1_; unfold bd at h9_11; have h9_12 := h_206; unfold bd at h9_12; have h9_13 := h_220; unfold bd at h9_13; have h9_14 := kb_0; unfold bd at h9_14; have h9_15 := kb_1; unfold bd at h9_15; have h9_16 := kb_12; unfold bd at h9_16; have h9_17 := kb_205; unfold bd at h9_17; have h9_18 := kb_300; unfold bd at h9_18; have h9_19 := kb_6; unfold bd at h9_19; have h9_20 := kb_7; unfold bd at h9_20; omega) _ _ _ _ g9  hl9
                                          · have fc_222 := nle_f c_222
                                            have b_226 : bd 13 2147483647 y_217 := ltR fc_222 kb_12 (bdT y_217) (by decide)
                                            refine lv_aload_n hx hb dX0_closeParts_227 rfl (lv_at hl 5 rfl) ?_
                                            refine g_getk (C := RX0) (T := TX0) (N := 14) hx hb hts (mc_ inX0) hown hK g rfl 0 (by decide) rfl (hts _ (List.mem_cons_of_mem _ t_373)) (fun _ h9 => h9) 9 rfl dX0_closeParts_228 ?_
                                            refine lv_bipush (v := 7) hx hb dX0_closeParts_231 (by decide) ?_
                                            refine lv_aload_n hx hb dX0_closeParts_233 rfl (lv_at hl 5 rfl) ?_
                                            refine g_getk (C := RX0) (T := TX0) (N := 14) hx hb hts (mc_ inX0) hown hK g rfl 4 (by decide) rfl (hts _ (List.mem_cons_of_mem _ t_377)) (fun _ h9 => h9) 7 rfl dX0_closeParts_234 ?_
                                            refine lv_aload_n hx hb dX0_closeParts_237 rfl (lv_at hl 5 rfl) ?_
                                            refine g_getk (C := RX0) (T := TX0) (N := 14) hx hb hts (mc_ inX0) hown hK g rfl 8 (by decide) rfl (hts _ (List.mem_cons_of_mem _ t_381)) (fun _ h9 => h9) 4 rfl dX0_closeParts_238 ?_
                                            refine g_iald hx hb hK g ma_37 ka_37 (by decide) rfl (in_bd b_55 (by decide)) dX0_closeParts_241 (fun x_227 bx_227 cx_227 => ?_)
                                            refine g_callv (va_runV (As := [.int 7, .int x_227]) (rest := []) ⟨hx, hb, hml, hown, hts⟩ (r_X8_fail_2 l dC dI L kd tys fr_218 H.size g.2.2.2.1 q0_ mq0_ kq0_ 7 (bd_sub kb_7 (by decide)) x_227 x_40 h_41 (g.fcts [6] rfl)) (cwV 2 hts (gV_ t_1215 t_1107 t_1108 t_184 t_1109) rfl rfl rfl (by decide +kernel) ⟨(Nat.le_of_ble_eq_true rfl), (Nat.le_of_ble_eq_true rfl)⟩) (pre3V g hK mq0_ kq0_ (by decide) (q := (RX8, TX8, 10)) rfl) rfl rfl hl.1 rfl (lv_room (Nat.le_of_ble_eq_true rfl)) dX0_closeParts_242 ⟨(Nat.le_of_ble_eq_true rfl), (Nat.le_of_ble_eq_true rfl)⟩) g hK (by decide) (by decide) (fx' := [(0, 12, a0_, .int 0), (0, 10, a0_, .int x_219), (0, 5, a0_, .ref a_208), (7, 6, q1_, .int x_205), (0, 8, a0_, .int y_54), (8, 8, q0_, .int x_40), (0, 4, a0_, .ref a_37), (0, 3, a0_, .ref g76_0_3_a0_), (0, 0, a0_, .ref q0_), (0, 2, a0_, .ref q1_)]) rfl (fun fr_228 H locs hp hMr_228 g => ?_)
                                            have hF_229 := hp
                                            have g := g.more hF_229
                                            obtain ⟨y_230, ey_230⟩ : ∃ z : Int32, z = v4_3 + 1 := ⟨_, rfl⟩
                                            refine lv_iinc (v := y_230) (lv' := [(3, .int y_230), (6, .int y_217), (2, .int 1), (5, .int 0), (4, .int x_56), (0, .ref a0_), (1, .int x1_)]) hx hb dX0_closeParts_245 hl (k := 4) rfl (by rw [ey_230]; rfl) (by decide) rfl (fun ls hl => ?_)
                                            have ty_230 := add_bd ey_230 b_48 kb_1 (by decide)
                                            have b_231 : bd 2 300 y_230 := add_rg ty_230 b_48 kb_1 (by decide)
                                            refine lv_goto (tgt := 4) hx hb dX0_closeParts_248 (by decide) ?_
                                            have hl9 := lv_sub hl [0, 1, 2, 3, 4, 5, 6] (by rfl : lv_pick [(3, .int y_230), (6, .int y_217), (2, .int 1), (5, .int 0), (4, .int x_56), (0, .ref a0_), (1, .int x1_)] [0, 1, 2, 3, 4, 5, 6] = [(3, .int y_230), (6, .int y_217), (2, .int 1), (5, .int 0), (4, .int x_56), (0, .ref a0_), (1, .int x1_)])
                                            have g9 := g.sub (fx' := [(8, 6, q0_, .int 1201), (8, 8, q0_, .int x_40), (0, 4, a0_, .ref a_37), (0, 12, a0_, .int 0), (0, 10, a0_, .int x_219), (7, 6, q1_, .int x_205), (0, 8, a0_, .int y_54), (0, 3, a0_, .ref g76_0_3_a0_), (0, 0, a0_, .ref q0_), (0, 2, a0_, .ref q1_)]) [0, 6, 7, 1, 2, 4, 5, 8, 9, 10] rfl
                                            exact ih4  y_230 y_217 1 0 x_56 x_219 x_205 y_54 (bd_sub b_231 (by decide)) (bd_sub kb_1 (by decide)) (bd_sub kb_0 (by decide)) h_220 h_206 (bd_sub b_55 (by decide)) (by have h9_0 := b_203; unfold bd at h9_0; have h9_1 := b_226; unfold bd at h9_1; have h9_2 := b_231; unfold bd at h9_2; have h9_3 := b_55; unfold bd at h9_3; have h9_4 := bdT v4_4; unfold bd at h9_4; have h9_5 := bdT v4_6; unfold bd at h9_5; have h9_6 := bv4_2; unfold bd at h9_6; have h9_7 := bv4_3; unfold bd at h9_7; have h9_8 := bv4_5; unfold bd at h9_8; have h9_9 := bw4_0_10_a0_; unfold bd at h9_9; have h9_10 := bw4_0_8_a0_; unfold bd at h9_10; have h9_11 := bw4_7_6_q1_; unfold bd at h9_11; have h9_12 := h_206; unfold bd at h9_12; have h9_13 := h_220; unfold bd at h9_13; have h9_14 := kb_0; unfold bd at h9_14; have h9_15 := kb_1; unfold bd at h9_15; have h9_16 := kb_12; unfold bd at h9_16; have h9_17 := kb_205; unfold bd at h9_17; have h9_18 := kb_300; unfold bd at h9_18; have h9_19 := kb_6; unfold bd at h9_19; have h9_20 := kb_7; unfold bd at h9_20; omega) _ _ _ _ g9  hl9
                                        · have fc_202 := neq_f c_202
                                          refine lv_iload hx hb dX0_closeParts_144 (lv_at hl 3 rfl) ?_
                                          refine lv_sipush (v := 206) hx hb dX0_closeParts_146 (by decide) ?_
                                          have kb_206 : bd 206 206 (206 : Int32) := ⟨by decide, by decide⟩
                                          refine lv_icmp_ne (tgt := 181) hx hb dX0_closeParts_149 (by decide) (fun c_232 => ?_) (fun c_232 => ?_)
                                          · have fc_232 := neq_f c_232
                                            have b_233 : bd 37 205 x_56 := neX fc_232 b_190 kb_206 (by decide)
                                            refine lv_aload_n hx hb dX0_closeParts_181 rfl (lv_at hl 5 rfl) ?_
                                            refine g_getk (C := RX0) (T := TX0) (N := 14) hx hb hts (mc_ inX0) hown hK g rfl 2 (by decide) rfl (hts _ (List.mem_cons_of_mem _ t_375)) (fun _ h9 => h9) 9 rfl dX0_closeParts_182 ?_
                                            refine lv_iload hx hb dX0_closeParts_185 (lv_at hl 3 rfl) ?_
                                            refine lv_iconst (v := 0) hx hb dX0_closeParts_187 (by decide) ?_
                                            refine g_callv (va_runV (As := [.int x_56, .int 0]) (rest := []) ⟨hx, hb, hml, hown, hts⟩ (r_X7_emit l dC dI L kd tys fr_198 H.size g.2.2.2.1 q1_ mq1_ kq1_ x_56 0) (cwV 2 hts (gV_ t_1203 t_1204 t_1205 t_191 t_1206) rfl rfl rfl (by decide +kernel) ⟨(Nat.le_of_ble_eq_true rfl), (Nat.le_of_ble_eq_true rfl)⟩) (pre3V g hK mq1_ kq1_ (by decide) (q := (RX7, TX7, 19)) rfl) rfl rfl hl.1 rfl (lv_room (Nat.le_of_ble_eq_true rfl)) dX0_closeParts_188 ⟨(Nat.le_of_ble_eq_true rfl), (Nat.le_of_ble_eq_true rfl)⟩) g hK (by decide) (by decide) (fx' := [(0, 10, a0_, .int x_199), (0, 8, a0_, .int y_54), (8, 6, q0_, .int 1201), (8, 8, q0_, .int x_40), (0, 4, a0_, .ref a_37), (0, 12, a0_, .int 0), (0, 3, a0_, .ref g76_0_3_a0_), (0, 0, a0_, .ref q0_), (0, 2, a0_, .ref q1_)]) rfl (fun fr_234 H locs hp hMr_234 g => ?_)
                                            obtain ⟨x_235, h_236, hF_237⟩ := hp
                                            have g := g.more hF_237
                                            refine lv_iconst (v := 1) hx hb dX0_closeParts_191 (by decide) ?_
                                            refine lv_iload hx hb dX0_closeParts_192 (lv_at hl 2 rfl) ?_
                                            refine lv_if_eq (tgt := 202) hx hb dX0_closeParts_194 (by decide) (fun c_ => ?_) (fun c_ => absurd (by decide) c_)
                                            refine lv_iload hx hb dX0_closeParts_202 (lv_at hl 0 rfl) ?_
                                            refine lv_aload_n hx hb dX0_closeParts_204 rfl (lv_at hl 5 rfl) ?_
                                            refine g_calli (va_runV (As := []) (rest := [.int r_198, .int 1]) ⟨hx, hb, hml, hown, hts⟩ (r_X0_takeHeight l dC dI L kd tys fr_234 H.size g.2.2.2.1 a0_ ma0_ ka0_) (cwV 0 hts (gV_ t_1199 t_1201 t_16 t_190 t_1202) rfl rfl rfl (by decide +kernel) ⟨(Nat.le_of_ble_eq_true rfl), (Nat.le_of_ble_eq_true rfl)⟩) (pre3V g hK ma0_ ka0_ (by decide) (q := (RX0, TX0, 14)) rfl) rfl rfl hl.1 rfl (lv_room (Nat.le_of_ble_eq_true rfl)) dX0_closeParts_205 ⟨(Nat.le_of_ble_eq_true rfl), (Nat.le_of_ble_eq_true rfl)⟩) g hK (by decide) (by decide) (fx' := [(7, 6, q1_, .int x_235), (0, 8, a0_, .int y_54), (8, 6, q0_, .int 1201), (8, 8, q0_, .int x_40), (0, 4, a0_, .ref a_37), (0, 12, a0_, .int 0), (0, 3, a0_, .ref g76_0_3_a0_), (0, 0, a0_, .ref q0_), (0, 2, a0_, .ref q1_)]) rfl (fun r_238 fr_238 H locs hp hMr_238 g => ?_)
                                            obtain ⟨x_239, h_240, hF_241⟩ := hp
                                            have g := g.more hF_241
                                            refine va_mmax hx hb (hml.trans hl.1.symm) hown (hts _ (List.mem_cons_of_mem _ t_1194)) (hts _ (List.mem_cons_of_mem _ t_1041)) (hts _ (List.mem_cons_of_mem _ t_204)) (hts _ (List.mem_cons_of_mem _ t_1042)) (Nat.le_of_ble_eq_true rfl) (Nat.le_of_ble_eq_true rfl) (Nat.le_of_ble_eq_true rfl) (Nat.le_of_ble_eq_true rfl) dX0_closeParts_208 ?_
                                            refine lv_topi (fun y_242 ey_242 => ?_)
                                            have ty_242 : y_242.toInt = max r_198.toInt r_238.toInt := by rw [ey_242]; exact mmax_ok _ _
                                            have b_243 : bd (-2147483648) 2147483647 y_242 := max_rg ty_242 (bdT r_198) (bdT r_238) (by decide)
                                            refine lv_iadd hx hb dX0_closeParts_211 ?_
                                            refine lv_topi (fun y_244 ey_244 => ?_)
                                            refine lv_istore (lv' := [(6, .int y_244), (2, .int 1), (5, .int 0), (4, .int x_56), (3, .int v4_3), (0, .ref a0_), (1, .int x1_)]) hx hb dX0_closeParts_212 hl (by decide) rfl (fun ls hl => ?_)
                                            refine lv_aload_n hx hb dX0_closeParts_214 rfl (lv_at hl 5 rfl) ?_
                                            refine lv_iload hx hb dX0_closeParts_215 (lv_at hl 0 rfl) ?_
                                            refine g_callv (va_runV (As := [.int y_244]) (rest := []) ⟨hx, hb, hml, hown, hts⟩ (r_X0_addWhole l dC dI L kd tys fr_238 H.size g.2.2.2.1 a0_ ma0_ ka0_ y_244) (cwV 1 hts (gV_ t_1211 t_1213 t_17 t_190 t_1214) rfl rfl rfl (by decide +kernel) ⟨(Nat.le_of_ble_eq_true rfl), (Nat.le_of_ble_eq_true rfl)⟩) (pre3V g hK ma0_ ka0_ (by decide) (q := (RX0, TX0, 14)) rfl) rfl rfl hl.1 rfl (lv_room (Nat.le_of_ble_eq_true rfl)) dX0_closeParts_217 ⟨(Nat.le_of_ble_eq_true rfl), (Nat.le_of_ble_eq_true rfl)⟩) g hK (by decide) (by decide) (fx' := [(7, 6, q1_, .int x_235), (0, 8, a0_, .int y_54), (8, 6, q0_, .int 1201), (8, 8, q0_, .int x_40), (0, 4, a0_, .ref a_37), (0, 3, a0_, .ref g76_0_3_a0_), (0, 0, a0_, .ref q0_), (0, 2, a0_, .ref q1_)]) rfl (fun fr_245 H locs hp hMr_245 g => ?_)
                                            obtain ⟨x_246, h_247, hF_248⟩ := hp
                                            have g := g.more hF_248
                                            refine lv_iload hx hb dX0_closeParts_220 (lv_at hl 0 rfl) ?_
                                            refine lv_bipush (v := 12) hx hb dX0_closeParts_222 (by decide) ?_
                                            refine lv_icmp_le (tgt := 245) hx hb dX0_closeParts_224 (by decide) (fun c_249 => ?_) (fun c_249 => ?_)
                                            · have fc_249 := le_f c_249
                                              have b_250 : bd (-2147483648) 12 y_244 := leL fc_249 (bdT y_244) kb_12 (by decide)
                                              obtain ⟨y_251, ey_251⟩ : ∃ z : Int32, z = v4_3 + 1 := ⟨_, rfl⟩
                                              refine lv_iinc (v := y_251) (lv' := [(3, .int y_251), (6, .int y_244), (2, .int 1), (5, .int 0), (4, .int x_56), (0, .ref a0_), (1, .int x1_)]) hx hb dX0_closeParts_245 hl (k := 4) rfl (by rw [ey_251]; rfl) (by decide) rfl (fun ls hl => ?_)
                                              have ty_251 := add_bd ey_251 b_48 kb_1 (by decide)
                                              have b_252 : bd 2 300 y_251 := add_rg ty_251 b_48 kb_1 (by decide)
                                              refine lv_goto (tgt := 4) hx hb dX0_closeParts_248 (by decide) ?_
                                              have hl9 := lv_sub hl [0, 1, 2, 3, 4, 5, 6] (by rfl : lv_pick [(3, .int y_251), (6, .int y_244), (2, .int 1), (5, .int 0), (4, .int x_56), (0, .ref a0_), (1, .int x1_)] [0, 1, 2, 3, 4, 5, 6] = [(3, .int y_251), (6, .int y_244), (2, .int 1), (5, .int 0), (4, .int x_56), (0, .ref a0_), (1, .int x1_)])
                                              have g9 := g.sub (fx' := [(8, 6, q0_, .int 1201), (8, 8, q0_, .int x_40), (0, 4, a0_, .ref a_37), (0, 12, a0_, .int 0), (0, 10, a0_, .int x_246), (7, 6, q1_, .int x_235), (0, 8, a0_, .int y_54), (0, 3, a0_, .ref g76_0_3_a0_), (0, 0, a0_, .ref q0_), (0, 2, a0_, .ref q1_)]) [4, 5, 6, 0, 1, 2, 3, 7, 8, 9] rfl
                                              exact ih4  y_251 y_244 1 0 x_56 x_246 x_235 y_54 (bd_sub b_252 (by decide)) (bd_sub kb_1 (by decide)) (bd_sub kb_0 (by decide)) h_247 h_236 (bd_sub b_55 (by decide)) (by have h9_0 := b_233; unfold bd at h9_0; have h9_1 := b_250; unfold bd at h9_1; have h9_2 := b_252; unfold bd at h9_2; have h9_3 := b_55; unfold bd at h9_3; have h9_4 := bdT v4_4; unfold bd at h9_4; have h9_5 := bdT v4_6; unfold bd at h9_5; have h9_6 := bv4_2; unfold bd at h9_6; have h9_7 := bv4_3; unfold bd at h9_7; have h9_8 := bv4_5; unfold bd at h9_8; have h9_9 := bw4_0_10_a0_; unfold bd at h9_9; have h9_10 := bw4_0_8_a0_; unfold bd at h9_10; have h9_11 := bw4_7_6_q1_; unfold bd at h9_11; have h9_12 := h_236; unfold bd at h9_12; have h9_13 := h_247; unfold bd at h9_13; have h9_14 := kb_0; unfold bd at h9_14; have h9_15 := kb_1; unfold bd at h9_15; have h9_16 := kb_12; unfold bd at h9_16; have h9_17 := kb_205; unfold bd at h9_17; have h9_18 := kb_206; unfold bd at h9_18; have h9_19 := kb_300; unfold bd at h9_19; have h9_20 := kb_6; unfold bd at h9_20; have h9_21 := kb_7; unfold bd at h9_21; omega) _ _ _ _ g9  hl9
                                            · have fc_249 := nle_f c_249
                                              have b_253 : bd 13 2147483647 y_244 := ltR fc_249 kb_12 (bdT y_244) (by decide)
                                              refine lv_aload_n hx hb dX0_closeParts_227 rfl (lv_at hl 5 rfl) ?_
                                              refine g_getk (C := RX0) (T := TX0) (N := 14) hx hb hts (mc_ inX0) hown hK g rfl 0 (by decide) rfl (hts _ (List.mem_cons_of_mem _ t_373)) (fun _ h9 => h9) 8 rfl dX0_closeParts_228 ?_
                                              refine lv_bipush (v := 7) hx hb dX0_closeParts_231 (by decide) ?_
                                              refine lv_aload_n hx hb dX0_closeParts_233 rfl (lv_at hl 5 rfl) ?_
                                              refine g_getk (C := RX0) (T := TX0) (N := 14) hx hb hts (mc_ inX0) hown hK g rfl 4 (by decide) rfl (hts _ (List.mem_cons_of_mem _ t_377)) (fun _ h9 => h9) 6 rfl dX0_closeParts_234 ?_
                                              refine lv_aload_n hx hb dX0_closeParts_237 rfl (lv_at hl 5 rfl) ?_
                                              refine g_getk (C := RX0) (T := TX0) (N := 14) hx hb hts (mc_ inX0) hown hK g rfl 8 (by decide) rfl (hts _ (List.mem_cons_of_mem _ t_381)) (fun _ h9 => h9) 3 rfl dX0_closeParts_238 ?_
                                              refine g_iald hx hb hK g ma_37 ka_37 (by decide) rfl (in_bd b_55 (by decide)) dX0_closeParts_241 (fun x_254 bx_254 cx_254 => ?_)
                                              refine g_callv (va_runV (As := [.int 7, .int x_254]) (rest := []) ⟨hx, hb, hml, hown, hts⟩ (r_X8_fail_2 l dC dI L kd tys fr_245 H.size g.2.2.2.1 q0_ mq0_ kq0_ 7 (bd_sub kb_7 (by decide)) x_254 x_40 h_41 (g.fcts [5] rfl)) (cwV 2 hts (gV_ t_1215 t_1107 t_1108 t_184 t_1109) rfl rfl rfl (by decide +kernel) ⟨(Nat.le_of_ble_eq_true rfl), (Nat.le_of_ble_eq_true rfl)⟩) (pre3V g hK mq0_ kq0_ (by decide) (q := (RX8, TX8, 10)) rfl) rfl rfl hl.1 rfl (lv_room (Nat.le_of_ble_eq_true rfl)) dX0_closeParts_242 ⟨(Nat.le_of_ble_eq_true rfl), (Nat.le_of_ble_eq_true rfl)⟩) g hK (by decide) (by decide) (fx' := [(0, 12, a0_, .int 0), (0, 10, a0_, .int x_246), (7, 6, q1_, .int x_235), (0, 8, a0_, .int y_54), (8, 8, q0_, .int x_40), (0, 4, a0_, .ref a_37), (0, 3, a0_, .ref g76_0_3_a0_), (0, 0, a0_, .ref q0_), (0, 2, a0_, .ref q1_)]) rfl (fun fr_255 H locs hp hMr_255 g => ?_)
                                              have hF_256 := hp
                                              have g := g.more hF_256
                                              obtain ⟨y_257, ey_257⟩ : ∃ z : Int32, z = v4_3 + 1 := ⟨_, rfl⟩
                                              refine lv_iinc (v := y_257) (lv' := [(3, .int y_257), (6, .int y_244), (2, .int 1), (5, .int 0), (4, .int x_56), (0, .ref a0_), (1, .int x1_)]) hx hb dX0_closeParts_245 hl (k := 4) rfl (by rw [ey_257]; rfl) (by decide) rfl (fun ls hl => ?_)
                                              have ty_257 := add_bd ey_257 b_48 kb_1 (by decide)
                                              have b_258 : bd 2 300 y_257 := add_rg ty_257 b_48 kb_1 (by decide)
                                              refine lv_goto (tgt := 4) hx hb dX0_closeParts_248 (by decide) ?_
                                              have hl9 := lv_sub hl [0, 1, 2, 3, 4, 5, 6] (by rfl : lv_pick [(3, .int y_257), (6, .int y_244), (2, .int 1), (5, .int 0), (4, .int x_56), (0, .ref a0_), (1, .int x1_)] [0, 1, 2, 3, 4, 5, 6] = [(3, .int y_257), (6, .int y_244), (2, .int 1), (5, .int 0), (4, .int x_56), (0, .ref a0_), (1, .int x1_)])
                                              have g9 := g.sub (fx' := [(8, 6, q0_, .int 1201), (8, 8, q0_, .int x_40), (0, 4, a0_, .ref a_37), (0, 12, a0_, .int 0), (0, 10, a0_, .int x_246), (7, 6, q1_, .int x_235), (0, 8, a0_, .int y_54), (0, 3, a0_, .ref g76_0_3_a0_), (0, 0, a0_, .ref q0_), (0, 2, a0_, .ref q1_)]) [0, 5, 6, 1, 2, 3, 4, 7, 8, 9] rfl
                                              exact ih4  y_257 y_244 1 0 x_56 x_246 x_235 y_54 (bd_sub b_258 (by decide)) (bd_sub kb_1 (by decide)) (bd_sub kb_0 (by decide)) h_247 h_236 (bd_sub b_55 (by decide)) (by have h9_0 := b_233; unfold bd at h9_0; have h9_1 := b_253; unfold bd at h9_1; have h9_2 := b_258; unfold bd at h9_2; have h9_3 := b_55; unfold bd at h9_3; have h9_4 := bdT v4_4; unfold bd at h9_4; have h9_5 := bdT v4_6; unfold bd at h9_5; have h9_6 := bv4_2; unfold bd at h9_6; have h9_7 := bv4_3; unfold bd at h9_7; have h9_8 := bv4_5; unfold bd at h9_8; have h9_9 := bw4_0_10_a0_; unfold bd at h9_9; have h9_10 := bw4_0_8_a0_; unfold bd at h9_10; have h9_11 := bw4_7_6_q1_; unfold bd at h9_11; have h9_12 := h_236; unfold bd at h9_12; have h9_13 := h_247; unfold bd at h9_13; have h9_14 := kb_0; unfold bd at h9_14; have h9_15 := kb_1; unfold bd at h9_15; have h9_16 := kb_12; unfold bd at h9_16; have h9_17 := kb_205; unfold bd at h9_17; have h9_18 := kb_206; unfold bd at h9_18; have h9_19 := kb_300; unfold bd at h9_19; have h9_20 := kb_6; unfold bd at h9_20; have h9_21 := kb_7; unfold bd at h9_21; omega) _ _ _ _ g9  hl9
                                          · have fc_232 := eq_f c_232
                                            have b_259 : bd 206 206 x_56 := eqX fc_232 b_190 kb_206 (by decide)
                                            refine lv_aload_n hx hb dX0_closeParts_152 rfl (lv_at hl 5 rfl) ?_
                                            refine g_getk (C := RX0) (T := TX0) (N := 14) hx hb hts (mc_ inX0) hown hK g rfl 2 (by decide) rfl (hts _ (List.mem_cons_of_mem _ t_375)) (fun _ h9 => h9) 9 rfl dX0_closeParts_153 ?_
                                            refine lv_bipush (v := 8) hx hb dX0_closeParts_156 (by decide) ?_
                                            refine lv_iconst (v := 0) hx hb dX0_closeParts_158 (by decide) ?_
                                            refine g_callv (va_runV (As := [.int 8, .int 0]) (rest := []) ⟨hx, hb, hml, hown, hts⟩ (r_X7_emit l dC dI L kd tys fr_198 H.size g.2.2.2.1 q1_ mq1_ kq1_ 8 0) (cwV 2 hts (gV_ t_1203 t_1204 t_1205 t_191 t_1206) rfl rfl rfl (by decide +kernel) ⟨(Nat.le_of_ble_eq_true rfl), (Nat.le_of_ble_eq_true rfl)⟩) (pre3V g hK mq1_ kq1_ (by decide) (q := (RX7, TX7, 19)) rfl) rfl rfl hl.1 rfl (lv_room (Nat.le_of_ble_eq_true rfl)) dX0_closeParts_159 ⟨(Nat.le_of_ble_eq_true rfl), (Nat.le_of_ble_eq_true rfl)⟩) g hK (by decide) (by decide) (fx' := [(0, 10, a0_, .int x_199), (0, 8, a0_, .int y_54), (8, 6, q0_, .int 1201), (8, 8, q0_, .int x_40), (0, 4, a0_, .ref a_37), (0, 12, a0_, .int 0), (0, 3, a0_, .ref g76_0_3_a0_), (0, 0, a0_, .ref q0_), (0, 2, a0_, .ref q1_)]) rfl (fun fr_260 H locs hp hMr_260 g => ?_)
                                            obtain ⟨x_261, h_262, hF_263⟩ := hp
                                            have g := g.more hF_263
                                            refine lv_aload_n hx hb dX0_closeParts_162 rfl (lv_at hl 5 rfl) ?_
                                            refine g_getk (C := RX0) (T := TX0) (N := 14) hx hb hts (mc_ inX0) hown hK g rfl 2 (by decide) rfl (hts _ (List.mem_cons_of_mem _ t_375)) (fun _ h9 => h9) 9 rfl dX0_closeParts_163 ?_
                                            refine lv_aload_n hx hb dX0_closeParts_166 rfl (lv_at hl 5 rfl) ?_
                                            refine g_getr (K := 112) (C := RX0) (T := TX0) (N := 14) hx hb hts (mc_ inX0) hown hK g ma0_ ka0_ (by decide) rfl 5 (by decide) rfl (hts _ (List.mem_cons_of_mem _ t_378)) (fun _ h9 => h9) rfl dX0_closeParts_167 (fun a_264 ma_264 ka_264 g => ?_)
                                            refine lv_aload_n hx hb dX0_closeParts_170 rfl (lv_at hl 5 rfl) ?_
                                            refine g_getk (C := RX0) (T := TX0) (N := 14) hx hb hts (mc_ inX0) hown hK g rfl 8 (by decide) rfl (hts _ (List.mem_cons_of_mem _ t_381)) (fun _ h9 => h9) 3 rfl dX0_closeParts_171 ?_
                                            refine g_iald hx hb hK g ma_264 ka_264 (by decide) rfl (in_bd b_55 (by decide)) dX0_closeParts_174 (fun x_265 bx_265 cx_265 => ?_)
                                            refine g_callv (va_runV (As := [.int x_265]) (rest := []) ⟨hx, hb, hml, hown, hts⟩ (r_X7_leadHere l dC dI L kd tys fr_260 H.size g.2.2.2.1 q1_ mq1_ kq1_ x_265) (cwV 1 hts (gV_ t_1207 t_1208 t_1209 t_191 t_1210) rfl rfl rfl (by decide +kernel) ⟨(Nat.le_of_ble_eq_true rfl), (Nat.le_of_ble_eq_true rfl)⟩) (pre3V g hK mq1_ kq1_ (by decide) (q := (RX7, TX7, 19)) rfl) rfl rfl hl.1 rfl (lv_room (Nat.le_of_ble_eq_true rfl)) dX0_closeParts_175 ⟨(Nat.le_of_ble_eq_true rfl), (Nat.le_of_ble_eq_true rfl)⟩) g hK (by decide) (by decide) (fx' := [(0, 5, a0_, .ref a_264), (7, 6, q1_, .int x_261), (0, 10, a0_, .int x_199), (0, 8, a0_, .int y_54), (8, 6, q0_, .int 1201), (8, 8, q0_, .int x_40), (0, 4, a0_, .ref a_37), (0, 12, a0_, .int 0), (0, 3, a0_, .ref g76_0_3_a0_), (0, 0, a0_, .ref q0_), (0, 2, a0_, .ref q1_)]) rfl (fun fr_266 H locs hp hMr_266 g => ?_)
                                            refine lv_goto (tgt := 191) hx hb dX0_closeParts_178 (by decide) ?_
                                            refine lv_iconst (v := 1) hx hb dX0_closeParts_191 (by decide) ?_
                                            refine lv_iload hx hb dX0_closeParts_192 (lv_at hl 2 rfl) ?_
                                            refine lv_if_eq (tgt := 202) hx hb dX0_closeParts_194 (by decide) (fun c_ => ?_) (fun c_ => absurd (by decide) c_)
                                            refine lv_iload hx hb dX0_closeParts_202 (lv_at hl 0 rfl) ?_
                                            refine lv_aload_n hx hb dX0_closeParts_204 rfl (lv_at hl 5 rfl) ?_
                                            refine g_calli (va_runV (As := []) (rest := [.int r_198, .int 1]) ⟨hx, hb, hml, hown, hts⟩ (r_X0_takeHeight l dC dI L kd tys fr_266 H.size g.2.2.2.1 a0_ ma0_ ka0_) (cwV 0 hts (gV_ t_1199 t_1201 t_16 t_190 t_1202) rfl rfl rfl (by decide +kernel) ⟨(Nat.le_of_ble_eq_true rfl), (Nat.le_of_ble_eq_true rfl)⟩) (pre3V g hK ma0_ ka0_ (by decide) (q := (RX0, TX0, 14)) rfl) rfl rfl hl.1 rfl (lv_room (Nat.le_of_ble_eq_true rfl)) dX0_closeParts_205 ⟨(Nat.le_of_ble_eq_true rfl), (Nat.le_of_ble_eq_true rfl)⟩) g hK (by decide) (by decide) (fx' := [(0, 5, a0_, .ref a_264), (7, 6, q1_, .int x_261), (0, 8, a0_, .int y_54), (8, 6, q0_, .int 1201), (8, 8, q0_, .int x_40), (0, 4, a0_, .ref a_37), (0, 12, a0_, .int 0), (0, 3, a0_, .ref g76_0_3_a0_), (0, 0, a0_, .ref q0_), (0, 2, a0_, .ref q1_)]) rfl (fun r_267 fr_267 H locs hp hMr_267 g => ?_)
                                            obtain ⟨x_268, h_269, hF_270⟩ := hp
                                            have g := g.more hF_270
                                            refine va_mmax hx hb (hml.trans hl.1.symm) hown (hts _ (List.mem_cons_of_mem _ t_1194)) (hts _ (List.mem_cons_of_mem _ t_1041)) (hts _ (List.mem_cons_of_mem _ t_204)) (hts _ (List.mem_cons_of_mem _ t_1042)) (Nat.le_of_ble_eq_true rfl) (Nat.le_of_ble_eq_true rfl) (Nat.le_of_ble_eq_true rfl) (Nat.le_of_ble_eq_true rfl) dX0_closeParts_208 ?_
                                            refine lv_topi (fun y_271 ey_271 => ?_)
                                            have ty_271 : y_271.toInt = max r_198.toInt r_267.toInt := by rw [ey_271]; exact mmax_ok _ _
                                            have b_272 : bd (-2147483648) 2147483647 y_271 := max_rg ty_271 (bdT r_198) (bdT r_267) (by decide)
                                            refine lv_iadd hx hb dX0_closeParts_211 ?_
                                            refine lv_topi (fun y_273 ey_273 => ?_)
                                            refine lv_istore (lv' := [(6, .int y_273), (2, .int 1), (5, .int 0), (4, .int x_56), (3, .int v4_3), (0, .ref a0_), (1, .int x1_)]) hx hb dX0_closeParts_212 hl (by decide) rfl (fun ls hl => ?_)
                                            refine lv_aload_n hx hb dX0_closeParts_214 rfl (lv_at hl 5 rfl) ?_
                                            refine lv_iload hx hb dX0_closeParts_215 (lv_at hl 0 rfl) ?_
                                            refine g_callv (va_runV (As := [.int y_273]) (rest := []) ⟨hx, hb, hml, hown, hts⟩ (r_X0_addWhole l dC dI L kd tys fr_267 H.size g.2.2.2.1 a0_ ma0_ ka0_ y_273) (cwV 1 hts (gV_ t_1211 t_1213 t_17 t_190 t_1214) rfl rfl rfl (by decide +kernel) ⟨(Nat.le_of_ble_eq_true rfl), (Nat.le_of_ble_eq_true rfl)⟩) (pre3V g hK ma0_ ka0_ (by decide) (q := (RX0, TX0, 14)) rfl) rfl rfl hl.1 rfl (lv_room (Nat.le_of_ble_eq_true rfl)) dX0_closeParts_217 ⟨(Nat.le_of_ble_eq_true rfl), (Nat.le_of_ble_eq_true rfl)⟩) g hK (by decide) (by decide) (fx' := [(0, 5, a0_, .ref a_264), (7, 6, q1_, .int x_261), (0, 8, a0_, .int y_54), (8, 6, q0_, .int 1201), (8, 8, q0_, .int x_40), (0, 4, a0_, .ref a_37), (0, 3, a0_, .ref g76_0_3_a0_), (0, 0, a0_, .ref q0_), (0, 2, a0_, .ref q1_)]) rfl (fun fr_274 H locs hp hMr_274 g => ?_)
                                            obtain ⟨x_275, h_276, hF_277⟩ := hp
                                            have g := g.more hF_277
                                            refine lv_iload hx hb dX0_closeParts_220 (lv_at hl 0 rfl) ?_
                                            refine lv_bipush (v := 12) hx hb dX0_closeParts_222 (by decide) ?_
                                            refine lv_icmp_le (tgt := 245) hx hb dX0_closeParts_224 (by decide) (fun c_278 => ?_) (fun c_278 => ?_)
                                            · have fc_278 := le_f c_278
                                              have b_279 : bd (-2147483648) 12 y_273 := leL fc_278 (bdT y_273) kb_12 (by decide)
                                              obtain ⟨y_280, ey_280⟩ : ∃ z : Int32, z = v4_3 + 1 := ⟨_, rfl⟩
                                              refine lv_iinc (v := y_280) (lv' := [(3, .int y_280), (6, .int y_273), (2, .int 1), (5, .int 0), (4, .int x_56), (0, .ref a0_), (1, .int x1_)]) hx hb dX0_closeParts_245 hl (k := 4) rfl (by rw [ey_280]; rfl) (by decide) rfl (fun ls hl => ?_)
                                              have ty_280 := add_bd ey_280 b_48 kb_1 (by decide)
                                              have b_281 : bd 2 300 y_280 := add_rg ty_280 b_48 kb_1 (by decide)
                                              refine lv_goto (tgt := 4) hx hb dX0_closeParts_248 (by decide) ?_
                                              have hl9 := lv_sub hl [0, 1, 2, 3, 4, 5, 6] (by rfl : lv_pick [(3, .int y_280), (6, .int y_273), (2, .int 1), (5, .int 0), (4, .int x_56), (0, .ref a0_), (1, .int x1_)] [0, 1, 2, 3, 4, 5, 6] = [(3, .int y_280), (6, .int y_273), (2, .int 1), (5, .int 0), (4, .int x_56), (0, .ref a0_), (1, .int x1_)])
                                              have g9 := g.sub (fx' := [(8, 6, q0_, .int 1201), (8, 8, q0_, .int x_40), (0, 4, a0_, .ref a_37), (0, 12, a0_, .int 0), (0, 10, a0_, .int x_275), (7, 6, q1_, .int x_261), (0, 8, a0_, .int y_54), (0, 3, a0_, .ref g76_0_3_a0_), (0, 0, a0_, .ref q0_), (0, 2, a0_, .ref q1_)]) [5, 6, 7, 0, 1, 3, 4, 8, 9, 10] rfl
                                              exact ih4  y_280 y_273 1 0 x_56 x_275 x_261 y_54 (bd_sub b_281 (by decide)) (bd_sub kb_1 (by decide)) (bd_sub kb_0 (by decide)) h_276 h_262 (bd_sub b_55 (by decide)) (by have h9_0 := b_259; unfold bd at h9_0; have h9_1 := b_279; unfold bd at h9_1; have h9_2 := b_281; unfold bd at h9_2; have h9_3 := b_55; unfold bd at h9_3; have h9_4 := bdT v4_4; unfold bd at h9_4; have h9_5 := bdT v4_6; unfold bd at h9_5; have h9_6 := bv4_2; unfold bd at h9_6; have h9_7 := bv4_3; unfold bd at h9_7; have h9_8 := bv4_5; unfold bd at h9_8; have h9_9 := bw4_0_10_a0_; unfold bd at h9_9; have h9_10 := bw4_0_8_a0_; unfold bd at h9_10; have h9_11 := bw4_7_6_q1_; unfold bd at h9_11; have h9_12 := h_262; unfold bd at h9_12; have h9_13 := h_276; unfold bd at h9_13; have h9_14 := kb_0; unfold bd at h9_14; have h9_15 := kb_1; unfold bd at h9_15; have h9_16 := kb_12; unfold bd at h9_16; have h9_17 := kb_205; unfold bd at h9_17; have h9_18 := kb_206; unfold bd at h9_18; have h9_19 := kb_300; unfold bd at h9_19; have h9_20 := kb_6; unfold bd at h9_20; have h9_21 := kb_7; unfold bd at h9_21; omega) _ _ _ _ g9  hl9
                                            · have fc_278 := nle_f c_278
                                              have b_282 : bd 13 2147483647 y_273 := ltR fc_278 kb_12 (bdT y_273) (by decide)
                                              refine lv_aload_n hx hb dX0_closeParts_227 rfl (lv_at hl 5 rfl) ?_
                                              refine g_getk (C := RX0) (T := TX0) (N := 14) hx hb hts (mc_ inX0) hown hK g rfl 0 (by decide) rfl (hts _ (List.mem_cons_of_mem _ t_373)) (fun _ h9 => h9) 9 rfl dX0_closeParts_228 ?_
                                              refine lv_bipush (v := 7) hx hb dX0_closeParts_231 (by decide) ?_
                                              refine lv_aload_n hx hb dX0_closeParts_233 rfl (lv_at hl 5 rfl) ?_
                                              refine g_getk (C := RX0) (T := TX0) (N := 14) hx hb hts (mc_ inX0) hown hK g rfl 4 (by decide) rfl (hts _ (List.mem_cons_of_mem _ t_377)) (fun _ h9 => h9) 7 rfl dX0_closeParts_234 ?_
                                              refine lv_aload_n hx hb dX0_closeParts_237 rfl (lv_at hl 5 rfl) ?_
                                              refine g_getk (C := RX0) (T := TX0) (N := 14) hx hb hts (mc_ inX0) hown hK g rfl 8 (by decide) rfl (hts _ (List.mem_cons_of_mem _ t_381)) (fun _ h9 => h9) 4 rfl dX0_closeParts_238 ?_
                                              refine g_iald hx hb hK g ma_37 ka_37 (by decide) rfl (in_bd b_55 (by decide)) dX0_closeParts_241 (fun x_283 bx_283 cx_283 => ?_)
                                              refine g_callv (va_runV (As := [.int 7, .int x_283]) (rest := []) ⟨hx, hb, hml, hown, hts⟩ (r_X8_fail_2 l dC dI L kd tys fr_274 H.size g.2.2.2.1 q0_ mq0_ kq0_ 7 (bd_sub kb_7 (by decide)) x_283 x_40 h_41 (g.fcts [6] rfl)) (cwV 2 hts (gV_ t_1215 t_1107 t_1108 t_184 t_1109) rfl rfl rfl (by decide +kernel) ⟨(Nat.le_of_ble_eq_true rfl), (Nat.le_of_ble_eq_true rfl)⟩) (pre3V g hK mq0_ kq0_ (by decide) (q := (RX8, TX8, 10)) rfl) rfl rfl hl.1 rfl (lv_room (Nat.le_of_ble_eq_true rfl)) dX0_closeParts_242 ⟨(Nat.le_of_ble_eq_true rfl), (Nat.le_of_ble_eq_true rfl)⟩) g hK (by decide) (by decide) (fx' := [(0, 12, a0_, .int 0), (0, 10, a0_, .int x_275), (0, 5, a0_, .ref a_264), (7, 6, q1_, .int x_261), (0, 8, a0_, .int y_54), (8, 8, q0_, .int x_40), (0, 4, a0_, .ref a_37), (0, 3, a0_, .ref g76_0_3_a0_), (0, 0, a0_, .ref q0_), (0, 2, a0_, .ref q1_)]) rfl (fun fr_284 H locs hp hMr_284 g => ?_)
                                              have hF_285 := hp
                                              have g := g.more hF_285
                                              obtain ⟨y_286, ey_286⟩ : ∃ z : Int32, z = v4_3 + 1 := ⟨_, rfl⟩
                                              refine lv_iinc (v := y_286) (lv' := [(3, .int y_286), (6, .int y_273), (2, .int 1), (5, .int 0), (4, .int x_56), (0, .ref a0_), (1, .int x1_)]) hx hb dX0_closeParts_245 hl (k := 4) rfl (by rw [ey_286]; rfl) (by decide) rfl (fun ls hl => ?_)
                                              have ty_286 := add_bd ey_286 b_48 kb_1 (by decide)
                                              have b_287 : bd 2 300 y_286 := add_rg ty_286 b_48 kb_1 (by decide)
                                              refine lv_goto (tgt := 4) hx hb dX0_closeParts_248 (by decide) ?_
                                              have hl9 := lv_sub hl [0, 1, 2, 3, 4, 5, 6] (by rfl : lv_pick [(3, .int y_286), (6, .int y_273), (2, .int 1), (5, .int 0), (4, .int x_56), (0, .ref a0_), (1, .int x1_)] [0, 1, 2, 3, 4, 5, 6] = [(3, .int y_286), (6, .int y_273), (2, .int 1), (5, .int 0), (4, .int x_56), (0, .ref a0_), (1, .int x1_)])
                                              have g9 := g.sub (fx' := [(8, 6, q0_, .int 1201), (8, 8, q0_, .int x_40), (0, 4, a0_, .ref a_37), (0, 12, a0_, .int 0), (0, 10, a0_, .int x_275), (7, 6, q1_, .int x_261), (0, 8, a0_, .int y_54), (0, 3, a0_, .ref g76_0_3_a0_), (0, 0, a0_, .ref q0_), (0, 2, a0_, .ref q1_)]) [0, 6, 7, 1, 2, 4, 5, 8, 9, 10] rfl
                                              exact ih4  y_286 y_273 1 0 x_56 x_275 x_261 y_54 (bd_sub b_287 (by decide)) (bd_sub kb_1 (by decide)) (bd_sub kb_0 (by decide)) h_276 h_262 (bd_sub b_55 (by decide)) (by have h9_0 := b_259; unfold bd at h9_0; have h9_1 := b_282; unfold bd at h9_1; have h9_2 := b_287; unfold bd at h9_2; have h9_3 := b_55; unfold bd at h9_3; have h9_4 := bdT v4_4; unfold bd at h9_4; have h9_5 := bdT v4_6; unfold bd at h9_5; have h9_6 := bv4_2; unfold bd at h9_6; have h9_7 := bv4_3; unfold bd at h9_7; have h9_8 := bv4_5; unfold bd at h9_8; have h9_9 := bw4_0_10_a0_; unfold bd at h9_9; have h9_10 := bw4_0_8_a0_; unfold bd at h9_10; have h9_11 := bw4_7_6_q1_; unfold bd at h9_11; have h9_12 := h_262; unfold bd at h9_12; have h9_13 := h_276; unfold bd at h9_13; have h9_14 := kb_0; unfold bd at h9_14; have h9_15 := kb_1; unfold bd at h9_15; have h9_16 := kb_12; unfold bd at h9_16; have h9_17 := kb_205; unfold bd at h9_17; have h9_18 := kb_206; unfold bd at h9_18; have h9_19 := kb_300; unfold bd at h9_19; have h9_20 := kb_6; unfold bd at h9_20; have h9_21 := kb_7; unfold bd at h9_21; omega) _ _ _ _ g9  hl9
                                  · have fc_89 := eq_f c_89
                                    have b_288 : bd 7 7 x_56 := eqX fc_89 (bdT x_56) kb_7 (by decide)
                                    refine lv_iconst (v := 1) hx hb dX0_closeParts_49 (by decide) ?_
                                    refine lv_goto (tgt := 54) hx hb dX0_closeParts_50 (by decide) ?_
                                    refine lv_istore (lv' := [(5, .int 1), (4, .int x_56), (3, .int v4_3), (6, .int v4_6), (2, .int v4_2), (0, .ref a0_), (1, .int x1_)]) hx hb dX0_closeParts_54 hl (by decide) rfl (fun ls hl => ?_)
                                    refine lv_iload hx hb dX0_closeParts_56 (lv_at hl 0 rfl) ?_
                                    refine lv_if_ne (tgt := 70) hx hb dX0_closeParts_58 (by decide) (fun c_ => ?_) (fun c_ => absurd c_ (by decide))
                                    refine lv_iconst (v := 1) hx hb dX0_closeParts_70 (by decide) ?_
                                    refine lv_goto (tgt := 75) hx hb dX0_closeParts_71 (by decide) ?_
                                    refine lv_istore_n (lv' := [(2, .int 1), (5, .int 1), (4, .int x_56), (3, .int v4_3), (6, .int v4_6), (0, .ref a0_), (1, .int x1_)]) hx hb dX0_closeParts_75 rfl hl (by decide) rfl (fun ls hl => ?_)
                                    refine lv_iload_n hx hb dX0_closeParts_76 rfl (lv_at hl 0 rfl) ?_
                                    refine lv_if_eq (tgt := 245) hx hb dX0_closeParts_77 (by decide) (fun c_ => absurd c_ (by decide)) (fun c_ => ?_)
                                    refine lv_aload_n hx hb dX0_closeParts_80 rfl (lv_at hl 5 rfl) ?_
                                    refine lv_dup hx hb dX0_closeParts_81 rfl ?_
                                    refine g_getk (C := RX0) (T := TX0) (N := 14) hx hb hts (mc_ inX0) hown hK g rfl 8 (by decide) rfl (hts _ (List.mem_cons_of_mem _ t_381)) (fun _ h9 => h9) 6 rfl dX0_closeParts_82 ?_
                                    refine lv_iconst (v := 1) hx hb dX0_closeParts_85 (by decide) ?_
                                    refine lv_isub hx hb dX0_closeParts_86 ?_
                                    refine lv_topi (fun y_289 ey_289 => ?_)
                                    obtain rfl : y_54 = y_289 := ey_54.trans ey_289.symm
                                    refine g_put (C := RX0) (T := TX0) (N := 14) hx hb hts (mc_ inX0) tyX0 tyX0_ok nmX0 hown hK g ma0_ ka0_ (by decide) rfl 8 (by decide) (hts _ (List.mem_cons_of_mem _ t_381)) (fun _ h9 => h9) rfl rfl (okV_i (bd_sub b_55 (by decide))) rfl rfl (by decide) (Or.inr (Or.inl (by decide))) (fx' := [(8, 6, q0_, .int 1201), (8, 8, q0_, .int x_40), (0, 4, a0_, .ref a_37), (0, 12, a0_, .int 0), (0, 10, a0_, .int w4_0_10_a0_), (7, 6, q1_, .int w4_7_6_q1_), (0, 3, a0_, .ref g76_0_3_a0_), (0, 0, a0_, .ref q0_), (0, 2, a0_, .ref q1_)]) rfl dX0_closeParts_87 (fun f H locs hM_290 g => ?_)
                                    refine lv_aload_n hx hb dX0_closeParts_90 rfl (lv_at hl 5 rfl) ?_
                                    refine g_calli (va_runV (As := []) (rest := []) ⟨hx, hb, hml, hown, hts⟩ (r_X0_takeHeight l dC dI L kd tys f H.size g.2.2.2.1 a0_ ma0_ ka0_) (cwV 0 hts (gV_ t_1199 t_1201 t_16 t_190 t_1202) rfl rfl rfl (by decide +kernel) ⟨(Nat.le_of_ble_eq_true rfl), (Nat.le_of_ble_eq_true rfl)⟩) (pre3V g hK ma0_ ka0_ (by decide) (q := (RX0, TX0, 14)) rfl) rfl rfl hl.1 rfl (lv_room (Nat.le_of_ble_eq_true rfl)) dX0_closeParts_91 ⟨(Nat.le_of_ble_eq_true rfl), (Nat.le_of_ble_eq_true rfl)⟩) g hK (by decide) (by decide) (fx' := [(0, 8, a0_, .int y_54), (8, 6, q0_, .int 1201), (8, 8, q0_, .int x_40), (0, 4, a0_, .ref a_37), (0, 12, a0_, .int 0), (7, 6, q1_, .int w4_7_6_q1_), (0, 3, a0_, .ref g76_0_3_a0_), (0, 0, a0_, .ref q0_), (0, 2, a0_, .ref q1_)]) rfl (fun r_291 fr_291 H locs hp hMr_291 g => ?_)
                                    obtain ⟨x_292, h_293, hF_294⟩ := hp
                                    have g := g.more hF_294
                                    refine lv_istore (lv' := [(6, .int r_291), (2, .int 1), (5, .int 1), (4, .int x_56), (3, .int v4_3), (0, .ref a0_), (1, .int x1_)]) hx hb dX0_closeParts_94 hl (by decide) rfl (fun ls hl => ?_)
                                    refine lv_iload hx hb dX0_closeParts_96 (lv_at hl 2 rfl) ?_
                                    refine lv_if_eq (tgt := 136) hx hb dX0_closeParts_98 (by decide) (fun c_ => absurd c_ (by decide)) (fun c_ => ?_)
                                    refine lv_aload_n hx hb dX0_closeParts_101 rfl (lv_at hl 5 rfl) ?_
                                    refine lv_dup hx hb dX0_closeParts_102 rfl ?_
                                    refine g_geti (C := RX0) (T := TX0) (N := 14) hx hb hts (mc_ inX0) hown hK g ma0_ ka0_ (by decide) rfl 11 (by decide) rfl (hts _ (List.mem_cons_of_mem _ t_384)) (fun _ h9 => h9) rfl dX0_closeParts_103 (fun x_295 bx_295 g => ?_)
                                    refine lv_iconst (v := 1) hx hb dX0_closeParts_106 (by decide) ?_
                                    refine lv_isub hx hb dX0_closeParts_107 ?_
                                    refine lv_topi (fun y_296 ey_296 => ?_)
                                    refine g_put (C := RX0) (T := TX0) (N := 14) hx hb hts (mc_ inX0) tyX0 tyX0_ok nmX0 hown hK g ma0_ ka0_ (by decide) rfl 11 (by decide) (hts _ (List.mem_cons_of_mem _ t_384)) (fun _ h9 => h9) rfl rfl (okV_i (bdT y_296)) rfl rfl (by decide) (Or.inr (Or.inl (by decide))) (fx' := [(0, 10, a0_, .int x_292), (0, 8, a0_, .int y_54), (8, 6, q0_, .int 1201), (8, 8, q0_, .int x_40), (0, 4, a0_, .ref a_37), (0, 12, a0_, .int 0), (7, 6, q1_, .int w4_7_6_q1_), (0, 3, a0_, .ref g76_0_3_a0_), (0, 0, a0_, .ref q0_), (0, 2, a0_, .ref q1_)]) rfl dX0_closeParts_108 (fun f H locs hM_297 g => ?_)
                                    refine lv_aload_n hx hb dX0_closeParts_111 rfl (lv_at hl 5 rfl) ?_
                                    refine g_getk (C := RX0) (T := TX0) (N := 14) hx hb hts (mc_ inX0) hown hK g rfl 2 (by decide) rfl (hts _ (List.mem_cons_of_mem _ t_375)) (fun _ h9 => h9) 10 rfl dX0_closeParts_112 ?_
                                    refine lv_iload hx hb dX0_closeParts_115 (lv_at hl 3 rfl) ?_
                                    refine lv_bipush (v := 6) hx hb dX0_closeParts_117 (by decide) ?_
                                    refine lv_icmp_ne (tgt := 127) hx hb dX0_closeParts_119 (by decide) (fun c_298 => ?_) (fun c_298 => ?_)
                                    · have fc_298 := neq_f c_298
                                      refine lv_bipush (v := 7) hx hb dX0_closeParts_127 (by decide) ?_
                                      refine lv_iconst (v := 0) hx hb dX0_closeParts_129 (by decide) ?_
                                      refine g_callv (va_runV (As := [.int 7, .int 0]) (rest := []) ⟨hx, hb, hml, hown, hts⟩ (r_X7_emit l dC dI L kd tys f H.size g.2.2.2.1 q1_ mq1_ kq1_ 7 0) (cwV 2 hts (gV_ t_1203 t_1204 t_1205 t_191 t_1206) rfl rfl rfl (by decide +kernel) ⟨(Nat.le_of_ble_eq_true rfl), (Nat.le_of_ble_eq_true rfl)⟩) (pre3V g hK mq1_ kq1_ (by decide) (q := (RX7, TX7, 19)) rfl) rfl rfl hl.1 rfl (lv_room (Nat.le_of_ble_eq_true rfl)) dX0_closeParts_130 ⟨(Nat.le_of_ble_eq_true rfl), (Nat.le_of_ble_eq_true rfl)⟩) g hK (by decide) (by decide) (fx' := [(0, 11, a0_, .int y_296), (0, 10, a0_, .int x_292), (0, 8, a0_, .int y_54), (8, 6, q0_, .int 1201), (8, 8, q0_, .int x_40), (0, 4, a0_, .ref a_37), (0, 12, a0_, .int 0), (0, 3, a0_, .ref g76_0_3_a0_), (0, 0, a0_, .ref q0_), (0, 2, a0_, .ref q1_)]) rfl (fun fr_299 H locs hp hMr_299 g => ?_)
                                      obtain ⟨x_300, h_301, hF_302⟩ := hp
                                      have g := g.more hF_302
                                      refine lv_goto (tgt := 191) hx hb dX0_closeParts_133 (by decide) ?_
                                      refine lv_iconst (v := 1) hx hb dX0_closeParts_191 (by decide) ?_
                                      refine lv_iload hx hb dX0_closeParts_192 (lv_at hl 2 rfl) ?_
                                      refine lv_if_eq (tgt := 202) hx hb dX0_closeParts_194 (by decide) (fun c_ => absurd c_ (by decide)) (fun c_ => ?_)
                                      refine lv_iload hx hb dX0_closeParts_197 (lv_at hl 0 rfl) ?_
                                      refine lv_goto (tgt := 211) hx hb dX0_closeParts_199 (by decide) ?_
                                      refine lv_iadd hx hb dX0_closeParts_211 ?_
                                      refine lv_topi (fun y_303 ey_303 => ?_)
                                      refine lv_istore (lv' := [(6, .int y_303), (2, .int 1), (5, .int 1), (4, .int x_56), (3, .int v4_3), (0, .ref a0_), (1, .int x1_)]) hx hb dX0_closeParts_212 hl (by decide) rfl (fun ls hl => ?_)
                                      refine lv_aload_n hx hb dX0_closeParts_214 rfl (lv_at hl 5 rfl) ?_
                                      refine lv_iload hx hb dX0_closeParts_215 (lv_at hl 0 rfl) ?_
                                      refine g_callv (va_runV (As := [.int y_303]) (rest := []) ⟨hx, hb, hml, hown, hts⟩ (r_X0_addWhole l dC dI L kd tys fr_299 H.size g.2.2.2.1 a0_ ma0_ ka0_ y_303) (cwV 1 hts (gV_ t_1211 t_1213 t_17 t_190 t_1214) rfl rfl rfl (by decide +kernel) ⟨(Nat.le_of_ble_eq_true rfl), (Nat.le_of_ble_eq_true rfl)⟩) (pre3V g hK ma0_ ka0_ (by decide) (q := (RX0, TX0, 14)) rfl) rfl rfl hl.1 rfl (lv_room (Nat.le_of_ble_eq_true rfl)) dX0_closeParts_217 ⟨(Nat.le_of_ble_eq_true rfl), (Nat.le_of_ble_eq_true rfl)⟩) g hK (by decide) (by decide) (fx' := [(7, 6, q1_, .int x_300), (0, 11, a0_, .int y_296), (0, 8, a0_, .int y_54), (8, 6, q0_, .int 1201), (8, 8, q0_, .int x_40), (0, 4, a0_, .ref a_37), (0, 3, a0_, .ref g76_0_3_a0_), (0, 0, a0_, .ref q0_), (0, 2, a0_, .ref q1_)]) rfl (fun fr_304 H locs hp hMr_304 g => ?_)
                                      obtain ⟨x_305, h_306, hF_307⟩ := hp
                                      have g := g.more hF_307
                                      refine lv_iload hx hb dX0_closeParts_220 (lv_at hl 0 rfl) ?_
                                      refine lv_bipush (v := 12) hx hb dX0_closeParts_222 (by decide) ?_
                                      refine lv_icmp_le (tgt := 245) hx hb dX0_closeParts_224 (by decide) (fun c_308 => ?_) (fun c_308 => ?_)
                                      · have fc_308 := le_f c_308
                                        have b_309 : bd (-2147483648) 12 y_303 := leL fc_308 (bdT y_303) kb_12 (by decide)
                                        obtain ⟨y_310, ey_310⟩ : ∃ z : Int32, z = v4_3 + 1 := ⟨_, rfl⟩
                                        refine lv_iinc (v := y_310) (lv' := [(3, .int y_310), (6, .int y_303), (2, .int 1), (5, .int 1), (4, .int x_56), (0, .ref a0_), (1, .int x1_)]) hx hb dX0_closeParts_245 hl (k := 4) rfl (by rw [ey_310]; rfl) (by decide) rfl (fun ls hl => ?_)
                                        have ty_310 := add_bd ey_310 b_48 kb_1 (by decide)
                                        have b_311 : bd 2 300 y_310 := add_rg ty_310 b_48 kb_1 (by decide)
                                        refine lv_goto (tgt := 4) hx hb dX0_closeParts_248 (by decide) ?_
                                        have hl9 := lv_sub hl [0, 1, 2, 3, 4, 5, 6] (by rfl : lv_pick [(3, .int y_310), (6, .int y_303), (2, .int 1), (5, .int 1), (4, .int x_56), (0, .ref a0_), (1, .int x1_)] [0, 1, 2, 3, 4, 5, 6] = [(3, .int y_310), (6, .int y_303), (2, .int 1), (5, .int 1), (4, .int x_56), (0, .ref a0_), (1, .int x1_)])
                                        have g9 := g.sub (fx' := [(8, 6, q0_, .int 1201), (8, 8, q0_, .int x_40), (0, 4, a0_, .ref a_37), (0, 12, a0_, .int 0), (0, 10, a0_, .int x_305), (7, 6, q1_, .int x_300), (0, 8, a0_, .int y_54), (0, 3, a0_, .ref g76_0_3_a0_), (0, 0, a0_, .ref q0_), (0, 2, a0_, .ref q1_)]) [5, 6, 7, 0, 1, 2, 4, 8, 9, 10] rfl
                                        exact ih4  y_310 y_303 1 1 x_56 x_305 x_300 y_54 (bd_sub b_311 (by decide)) (bd_sub kb_1 (by decide)) (bd_sub kb_1 (by decide)) h_306 h_301 (bd_sub b_55 (by decide)) (by have h9_0 := b_288; unfold bd at h9_0; have h9_1 := b_309; unfold bd at h9_1; have h9_2 := b_311; unfold bd at h9_2; have h9_3 := b_55; unfold bd at h9_3; have h9_4 := bdT v4_4; unfold bd at h9_4; have h9_5 := bdT v4_6; unfold bd at h9_5; have h9_6 := bv4_2; unfold bd at h9_6; have h9_7 := bv4_3; unfold bd at h9_7; have h9_8 := bv4_5; unfold bd at h9_8; have h9_9 := bw4_0_10_a0_; unfold bd at h9_9; have h9_10 := bw4_0_8_a0_; unfold bd at h9_10; have h9_11 := bw4_7_6_q1_; unfold bd at h9_11; have h9_12 := h_301; unfold bd at h9_12; have h9_13 := h_306; unfold bd at h9_13; have h9_14 := kb_0; unfold bd at h9_14; have h9_15 := kb_1; unfold bd at h9_15; have h9_16 := kb_12; unfold bd at h9_16; have h9_17 := kb_300; unfold bd at h9_17; have h9_18 := kb_6; unfold bd at h9_18; have h9_19 := kb_7; unfold bd at h9_19; omega) _ _ _ _ g9  hl9
                                      · have fc_308 := nle_f c_308
                                        have b_312 : bd 13 2147483647 y_303 := ltR fc_308 kb_12 (bdT y_303) (by decide)
                                        refine lv_aload_n hx hb dX0_closeParts_227 rfl (lv_at hl 5 rfl) ?_
                                        refine g_getk (C := RX0) (T := TX0) (N := 14) hx hb hts (mc_ inX0) hown hK g rfl 0 (by decide) rfl (hts _ (List.mem_cons_of_mem _ t_373)) (fun _ h9 => h9) 9 rfl dX0_closeParts_228 ?_
                                        refine lv_bipush (v := 7) hx hb dX0_closeParts_231 (by decide) ?_
                                        refine lv_aload_n hx hb dX0_closeParts_233 rfl (lv_at hl 5 rfl) ?_
                                        refine g_getk (C := RX0) (T := TX0) (N := 14) hx hb hts (mc_ inX0) hown hK g rfl 4 (by decide) rfl (hts _ (List.mem_cons_of_mem _ t_377)) (fun _ h9 => h9) 7 rfl dX0_closeParts_234 ?_
                                        refine lv_aload_n hx hb dX0_closeParts_237 rfl (lv_at hl 5 rfl) ?_
                                        refine g_getk (C := RX0) (T := TX0) (N := 14) hx hb hts (mc_ inX0) hown hK g rfl 8 (by decide) rfl (hts _ (List.mem_cons_of_mem _ t_381)) (fun _ h9 => h9) 4 rfl dX0_closeParts_238 ?_
                                        refine g_iald hx hb hK g ma_37 ka_37 (by decide) rfl (in_bd b_55 (by decide)) dX0_closeParts_241 (fun x_313 bx_313 cx_313 => ?_)
                                        refine g_callv (va_runV (As := [.int 7, .int x_313]) (rest := []) ⟨hx, hb, hml, hown, hts⟩ (r_X8_fail_2 l dC dI L kd tys fr_304 H.size g.2.2.2.1 q0_ mq0_ kq0_ 7 (bd_sub kb_7 (by decide)) x_313 x_40 h_41 (g.fcts [6] rfl)) (cwV 2 hts (gV_ t_1215 t_1107 t_1108 t_184 t_1109) rfl rfl rfl (by decide +kernel) ⟨(Nat.le_of_ble_eq_true rfl), (Nat.le_of_ble_eq_true rfl)⟩) (pre3V g hK mq0_ kq0_ (by decide) (q := (RX8, TX8, 10)) rfl) rfl rfl hl.1 rfl (lv_room (Nat.le_of_ble_eq_true rfl)) dX0_closeParts_242 ⟨(Nat.le_of_ble_eq_true rfl), (Nat.le_of_ble_eq_true rfl)⟩) g hK (by decide) (by decide) (fx' := [(0, 12, a0_, .int 0), (0, 10, a0_, .int x_305), (7, 6, q1_, .int x_300), (0, 11, a0_, .int y_296), (0, 8, a0_, .int y_54), (8, 8, q0_, .int x_40), (0, 4, a0_, .ref a_37), (0, 3, a0_, .ref g76_0_3_a0_), (0, 0, a0_, .ref q0_), (0, 2, a0_, .ref q1_)]) rfl (fun fr_314 H locs hp hMr_314 g => ?_)
                                        have hF_315 := hp
                                        have g := g.more hF_315
                                        obtain ⟨y_316, ey_316⟩ : ∃ z : Int32, z = v4_3 + 1 := ⟨_, rfl⟩
                                        refine lv_iinc (v := y_316) (lv' := [(3, .int y_316), (6, .int y_303), (2, .int 1), (5, .int 1), (4, .int x_56), (0, .ref a0_), (1, .int x1_)]) hx hb dX0_closeParts_245 hl (k := 4) rfl (by rw [ey_316]; rfl) (by decide) rfl (fun ls hl => ?_)
                                        have ty_316 := add_bd ey_316 b_48 kb_1 (by decide)
                                        have b_317 : bd 2 300 y_316 := add_rg ty_316 b_48 kb_1 (by decide)
                                        refine lv_goto (tgt := 4) hx hb dX0_closeParts_248 (by decide) ?_
                                        have hl9 := lv_sub hl [0, 1, 2, 3, 4, 5, 6] (by rfl : lv_pick [(3, .int y_316), (6, .int y_303), (2, .int 1), (5, .int 1), (4, .int x_56), (0, .ref a0_), (1, .int x1_)] [0, 1, 2, 3, 4, 5, 6] = [(3, .int y_316), (6, .int y_303), (2, .int 1), (5, .int 1), (4, .int x_56), (0, .ref a0_), (1, .int x1_)])
                                        have g9 := g.sub (fx' := [(8, 6, q0_, .int 1201), (8, 8, q0_, .int x_40), (0, 4, a0_, .ref a_37), (0, 12, a0_, .int 0), (0, 10, a0_, .int x_305), (7, 6, q1_, .int x_300), (0, 8, a0_, .int y_54), (0, 3, a0_, .ref g76_0_3_a0_), (0, 0, a0_, .ref q0_), (0, 2, a0_, .ref q1_)]) [0, 6, 7, 1, 2, 3, 5, 8, 9, 10] rfl
                                        exact ih4  y_316 y_303 1 1 x_56 x_305 x_300 y_54 (bd_sub b_317 (by decide)) (bd_sub kb_1 (by decide)) (bd_sub kb_1 (by decide)) h_306 h_301 (bd_sub b_55 (by decide)) (by have h9_0 := b_288; unfold bd at h9_0; have h9_1 := b_312; unfold bd at h9_1; have h9_2 := b_317; unfold bd at h9_2; have h9_3 := b_55; unfold bd at h9_3; have h9_4 := bdT v4_4; unfold bd at h9_4; have h9_5 := bdT v4_6; unfold bd at h9_5; have h9_6 := bv4_2; unfold bd at h9_6; have h9_7 := bv4_3; unfold bd at h9_7; have h9_8 := bv4_5; unfold bd at h9_8; have h9_9 := bw4_0_10_a0_; unfold bd at h9_9; have h9_10 := bw4_0_8_a0_; unfold bd at h9_10; have h9_11 := bw4_7_6_q1_; unfold bd at h9_11; have h9_12 := h_301; unfold bd at h9_12; have h9_13 := h_306; unfold bd at h9_13; have h9_14 := kb_0; unfold bd at h9_14; have h9_15 := kb_1; unfold bd at h9_15; have h9_16 := kb_12; unfold bd at h9_16; have h9_17 := kb_300; unfold bd at h9_17; have h9_18 := kb_6; unfold bd at h9_18; have h9_19 := kb_7; unfold bd at h9_19; omega) _ _ _ _ g9  hl9
                                    · have fc_298 := eq_f c_298
                                      exact absurd fc_298 fc_57
                      have hl9 := lv_sub hl [0, 1, 2, 3, 4, 5, 6] (by rfl : lv_pick [(3, .int y_43), (6, .int y_27), (2, .int j76_2), (5, .int j76_5), (4, .int j76_4), (0, .ref a0_), (1, .int x1_)] [0, 1, 2, 3, 4, 5, 6] = [(3, .int y_43), (6, .int y_27), (2, .int j76_2), (5, .int j76_5), (4, .int j76_4), (0, .ref a0_), (1, .int x1_)])
                      have g9 := g.sub (fx' := [(8, 6, q0_, .int 1201), (8, 8, q0_, .int x_40), (0, 4, a0_, .ref a_37), (0, 12, a0_, .int 0), (0, 10, a0_, .int x_29), (7, 6, q1_, .int g191_7_6_q1_), (0, 8, a0_, .int g191_0_8_a0_), (0, 3, a0_, .ref g76_0_3_a0_), (0, 0, a0_, .ref q0_), (0, 2, a0_, .ref q1_)]) [0, 1, 2, 3, 4, 5, 6, 7, 8, 9] rfl
                      exact loop_45 (601) y_43 y_27 j76_2 j76_5 j76_4 x_29 g191_7_6_q1_ g191_0_8_a0_ b_44 (bd_sub b_17 (by decide)) (bd_sub b_20 (by decide)) h_30 bg191_7_6_q1_ bg191_0_8_a0_ (by have h9_0 := b_17; unfold bd at h9_0; have h9_1 := b_20; unfold bd at h9_1; have h9_2 := b_36; unfold bd at h9_2; have h9_3 := b_44; unfold bd at h9_3; have h9_4 := bdT j76_4; unfold bd at h9_4; have h9_5 := bg191_0_8_a0_; unfold bd at h9_5; have h9_6 := bg191_7_6_q1_; unfold bd at h9_6; have h9_7 := h_30; unfold bd at h9_7; have h9_8 := kb_0; unfold bd at h9_8; have h9_9 := kb_1; unfold bd at h9_9; have h9_10 := kb_12; unfold bd at h9_10; have h9_11 := kb_300; unfold bd at h9_11; have h9_12 := kb_7; unfold bd at h9_12; omega) _ _ _ _ g9  hl9
                  · have fc_19 := neq_f c_19
                    have b_318 : bd 1 1 j76_5 := neX fc_19 bj76_5 kb_0 (by decide)
                    refine lv_iload hx hb dX0_closeParts_197 (lv_at hl 0 rfl) ?_
                    refine lv_goto (tgt := 211) hx hb dX0_closeParts_199 (by decide) ?_
                    have kb_1 : bd 1 1 (1 : Int32) := ⟨by decide, by decide⟩
                    refine lv_iadd hx hb dX0_closeParts_211 ?_
                    refine lv_topi (fun y_319 ey_319 => ?_)
                    refine lv_istore (lv' := [(6, .int y_319), (2, .int j76_2), (5, .int j76_5), (4, .int j76_4), (3, .int v4_3), (0, .ref a0_), (1, .int x1_)]) hx hb dX0_closeParts_212 hl (by decide) rfl (fun ls hl => ?_)
                    refine lv_aload_n hx hb dX0_closeParts_214 rfl (lv_at hl 5 rfl) ?_
                    refine lv_iload hx hb dX0_closeParts_215 (lv_at hl 0 rfl) ?_
                    refine g_callv (va_runV (As := [.int y_319]) (rest := []) ⟨hx, hb, hml, hown, hts⟩ (r_X0_addWhole l dC dI L kd tys f H.size g.2.2.2.1 a0_ ma0_ ka0_ y_319) (cwV 1 hts (gV_ t_1211 t_1213 t_17 t_190 t_1214) rfl rfl rfl (by decide +kernel) ⟨(Nat.le_of_ble_eq_true rfl), (Nat.le_of_ble_eq_true rfl)⟩) (pre3V g hK ma0_ ka0_ (by decide) (q := (RX0, TX0, 14)) rfl) rfl rfl hl.1 rfl (lv_room (Nat.le_of_ble_eq_true rfl)) dX0_closeParts_217 ⟨(Nat.le_of_ble_eq_true rfl), (Nat.le_of_ble_eq_true rfl)⟩) g hK (by decide) (by decide) (fx' := [(7, 6, q1_, .int g191_7_6_q1_), (0, 8, a0_, .int g191_0_8_a0_), (0, 3, a0_, .ref g76_0_3_a0_), (0, 0, a0_, .ref q0_), (0, 2, a0_, .ref q1_), (8, 8, q0_, .int y0_)]) rfl (fun fr_320 H locs hp hMr_320 g => ?_)
                    obtain ⟨x_321, h_322, hF_323⟩ := hp
                    have g := g.more hF_323
                    refine lv_iload hx hb dX0_closeParts_220 (lv_at hl 0 rfl) ?_
                    refine lv_bipush (v := 12) hx hb dX0_closeParts_222 (by decide) ?_
                    have kb_12 : bd 12 12 (12 : Int32) := ⟨by decide, by decide⟩
                    refine lv_icmp_le (tgt := 245) hx hb dX0_closeParts_224 (by decide) (fun c_324 => ?_) (fun c_324 => ?_)
                    · have fc_324 := le_f c_324
                      have b_325 : bd (-2147483648) 12 y_319 := leL fc_324 (bdT y_319) kb_12 (by decide)
                      obtain ⟨y_326, ey_326⟩ : ∃ z : Int32, z = v4_3 + 1 := ⟨_, rfl⟩
                      refine lv_iinc (v := y_326) (lv' := [(3, .int y_326), (6, .int y_319), (2, .int j76_2), (5, .int j76_5), (4, .int j76_4), (0, .ref a0_), (1, .int x1_)]) hx hb dX0_closeParts_245 hl (k := 4) rfl (by rw [ey_326]; rfl) (by decide) rfl (fun ls hl => ?_)
                      have ty_326 := add_bd ey_326 b_4 kb_1 (by decide)
                      have b_327 : bd 1 300 y_326 := add_rg ty_326 b_4 kb_1 (by decide)
                      refine lv_goto (tgt := 4) hx hb dX0_closeParts_248 (by decide) ?_
                      have hl9 := lv_sub hl [0, 2, 5, 6] (by rfl : lv_pick [(3, .int y_326), (6, .int y_319), (2, .int j76_2), (5, .int j76_5), (4, .int j76_4), (0, .ref a0_), (1, .int x1_)] [0, 2, 5, 6] = [(3, .int y_326), (2, .int j76_2), (0, .ref a0_), (1, .int x1_)])
                      have g9 := g.sub (fx' := [(0, 0, a0_, .ref q0_), (0, 2, a0_, .ref q1_), (8, 8, q0_, .int y0_)]) [5, 6, 7] rfl
                      exact ih4  y_326 j76_2 (bd_sub b_327 (by decide)) (bd_sub b_17 (by decide)) (by have h9_0 := b_17; unfold bd at h9_0; have h9_1 := b_327; unfold bd at h9_1; have h9_2 := bv4_2; unfold bd at h9_2; have h9_3 := bv4_3; unfold bd at h9_3; have h9_4 := kb_0; unfold bd at h9_4; have h9_5 := kb_1; unfold bd at h9_5; have h9_6 := kb_12; unfold bd at h9_6; have h9_7 := kb_300; unfold bd at h9_7; omega) _ _ _ _ g9  hl9
                    · have fc_324 := nle_f c_324
                      have b_328 : bd 13 2147483647 y_319 := ltR fc_324 kb_12 (bdT y_319) (by decide)
                      refine lv_aload_n hx hb dX0_closeParts_227 rfl (lv_at hl 5 rfl) ?_
                      refine g_getk (C := RX0) (T := TX0) (N := 14) hx hb hts (mc_ inX0) hown hK g rfl 0 (by decide) rfl (hts _ (List.mem_cons_of_mem _ t_373)) (fun _ h9 => h9) 5 rfl dX0_closeParts_228 ?_
                      refine lv_bipush (v := 7) hx hb dX0_closeParts_231 (by decide) ?_
                      refine lv_aload_n hx hb dX0_closeParts_233 rfl (lv_at hl 5 rfl) ?_
                      refine g_getr (K := 111) (C := RX0) (T := TX0) (N := 14) hx hb hts (mc_ inX0) hown hK g ma0_ ka0_ (by decide) rfl 4 (by decide) rfl (hts _ (List.mem_cons_of_mem _ t_377)) (fun _ h9 => h9) rfl dX0_closeParts_234 (fun a_329 ma_329 ka_329 g => ?_)
                      refine lv_aload_n hx hb dX0_closeParts_237 rfl (lv_at hl 5 rfl) ?_
                      refine g_getk (C := RX0) (T := TX0) (N := 14) hx hb hts (mc_ inX0) hown hK g rfl 8 (by decide) rfl (hts _ (List.mem_cons_of_mem _ t_381)) (fun _ h9 => h9) 4 rfl dX0_closeParts_238 ?_
                      refine g_iald hx hb hK g ma_329 ka_329 (by decide) rfl (in_bd bg191_0_8_a0_ (by decide)) dX0_closeParts_241 (fun x_330 bx_330 cx_330 => ?_)
                      have kb_7 : bd 7 7 (7 : Int32) := ⟨by decide, by decide⟩
                      refine g_callv (va_runV (As := [.int 7, .int x_330]) (rest := []) ⟨hx, hb, hml, hown, hts⟩ (r_X8_fail l dC dI L kd tys fr_320 H.size g.2.2.2.1 q0_ mq0_ kq0_ 7 (bd_sub kb_7 (by decide)) x_330 y0_ by0_ (g.fcts [8] rfl)) (cwV 2 hts (gV_ t_1215 t_1107 t_1108 t_184 t_1109) rfl rfl rfl (by decide +kernel) ⟨(Nat.le_of_ble_eq_true rfl), (Nat.le_of_ble_eq_true rfl)⟩) (pre3V g hK mq0_ kq0_ (by decide) (q := (RX8, TX8, 10)) rfl) rfl rfl hl.1 rfl (lv_room (Nat.le_of_ble_eq_true rfl)) dX0_closeParts_242 ⟨(Nat.le_of_ble_eq_true rfl), (Nat.le_of_ble_eq_true rfl)⟩) g hK (by decide) (by decide) (fx' := [(0, 4, a0_, .ref a_329), (0, 12, a0_, .int 0), (0, 10, a0_, .int x_321), (7, 6, q1_, .int g191_7_6_q1_), (0, 8, a0_, .int g191_0_8_a0_), (0, 3, a0_, .ref g76_0_3_a0_), (0, 0, a0_, .ref q0_), (0, 2, a0_, .ref q1_)]) rfl (fun fr_331 H locs hp hMr_331 g => ?_)
                      obtain ⟨x_332, h_333, hF_334⟩ := hp
                      have g := g.more hF_334
                      obtain ⟨y_335, ey_335⟩ : ∃ z : Int32, z = v4_3 + 1 := ⟨_, rfl⟩
                      refine lv_iinc (v := y_335) (lv' := [(3, .int y_335), (6, .int y_319), (2, .int j76_2), (5, .int j76_5), (4, .int j76_4), (0, .ref a0_), (1, .int x1_)]) hx hb dX0_closeParts_245 hl (k := 4) rfl (by rw [ey_335]; rfl) (by decide) rfl (fun ls hl => ?_)
                      have ty_335 := add_bd ey_335 b_4 kb_1 (by decide)
                      have b_336 : bd 1 300 y_335 := add_rg ty_335 b_4 kb_1 (by decide)
                      refine lv_goto (tgt := 4) hx hb dX0_closeParts_248 (by decide) ?_
                      have loop_337 : ∀ (n : Nat) (v4_3 : Int32) (v4_6 : Int32) (v4_2 : Int32) (v4_5 : Int32) (v4_4 : Int32) (w4_0_10_a0_ : Int32) (w4_7_6_q1_ : Int32) (w4_0_8_a0_ : Int32), bd 1 300 v4_3 → bd 0 1 v4_2 → bd 0 1 v4_5 → bd 1 300 w4_0_10_a0_ → bd 1 2000 w4_7_6_q1_ → bd 0 299 w4_0_8_a0_ → (300 - v4_3.toInt < (n : Int)) → ∀ (f : Nat → va_E) (H : Heap) (locs : List Loc) (ls : Array Slot), G3 (dC, dI) L kd tys s f0 [(0, 8), (0, 10), (0, 11), (0, 12), (7, 6), (8, 6), (8, 8), (8, 9)] [115, 138, 139] f H locs [(8, 6, q0_, .int 1201), (8, 8, q0_, .int x_332), (0, 4, a0_, .ref a_329), (0, 12, a0_, .int 0), (0, 10, a0_, .int w4_0_10_a0_), (7, 6, q1_, .int w4_7_6_q1_), (0, 8, a0_, .int w4_0_8_a0_), (0, 3, a0_, .ref g76_0_3_a0_), (0, 0, a0_, .ref q0_), (0, 2, a0_, .ref q1_)] → lv_has ls 7 [(3, .int v4_3), (6, .int v4_6), (2, .int v4_2), (5, .int v4_5), (4, .int v4_4), (0, .ref a0_), (1, .int x1_)] → W p l e ({ frames := 1, cells := 0, slots := 0, locals := 23 } : Room) s m [.ref a0_, .int x1_].toArray below meth c H locs 0 0 Q (F0 m 4 ls []) := by
                        intro n4
                        induction n4 with
                        | zero =>
                          intro v4_3 v4_6 v4_2 v4_5 v4_4 w4_0_10_a0_ w4_7_6_q1_ w4_0_8_a0_ bv4_3  bv4_2 bv4_5  bw4_0_10_a0_ bw4_7_6_q1_ bw4_0_8_a0_ hm4 f H locs ls g  hl
                          exact absurd hm4 (by have h9_v4_3 := bv4_3; unfold bd at h9_v4_3; have h9_v4_6 := bdT v4_6; unfold bd at h9_v4_6; have h9_v4_2 := bv4_2; unfold bd at h9_v4_2; have h9_v4_5 := bv4_5; unfold bd at h9_v4_5; have h9_v4_4 := bdT v4_4; unfold bd at h9_v4_4; have h9_w4_0_10_a0_ := bw4_0_10_a0_; unfold bd at h9_w4_0_10_a0_; have h9_w4_7_6_q1_ := bw4_7_6_q1_; unfold bd at h9_w4_7_6_q1_; have h9_w4_0_8_a0_ := bw4_0_8_a0_; unfold bd at h9_w4_0_8_a0_; omega)
                        | succ n4 ih4 =>
                          intro v4_3 v4_6 v4_2 v4_5 v4_4 w4_0_10_a0_ w4_7_6_q1_ w4_0_8_a0_ bv4_3  bv4_2 bv4_5  bw4_0_10_a0_ bw4_7_6_q1_ bw4_0_8_a0_ hm4 f H locs ls g  hl
                          refine lv_iload_n hx hb dX0_closeParts_4 rfl (lv_at hl 0 rfl) ?_
                          refine lv_sipush (v := 300) hx hb dX0_closeParts_5 (by decide) ?_
                          refine lv_icmp_ge (tgt := 251) hx hb dX0_closeParts_8 (by decide) (fun c_338 => ?_) (fun c_338 => ?_)
                          · have fc_338 := le_f c_338
                            have b_339 : bd 300 300 v4_3 := leR fc_338 kb_300 bv4_3 (by decide)
                            subst hQ
                            exact W.vret hx hb hr (fun t ht hW => ⟨⟨_, rfl, Or.inr (⟨x_332, h_333, w4_0_10_a0_, bw4_0_10_a0_, w4_7_6_q1_, bw4_7_6_q1_, w4_0_8_a0_, bw4_0_8_a0_, (g.fcts [0, 1, 3, 4, 5, 6] rfl)⟩), q3_of g hK ht hW⟩, g.2.2.1.F ht⟩) g.2.2.1.2.2 dX0_closeParts_251
                          · have fc_338 := nle_f c_338
                            have b_340 : bd 1 299 v4_3 := ltL fc_338 bv4_3 kb_300 (by decide)
                            refine lv_iload_n hx hb dX0_closeParts_11 rfl (lv_at hl 2 rfl) ?_
                            refine lv_if_eq (tgt := 251) hx hb dX0_closeParts_12 (by decide) (fun c_341 => ?_) (fun c_341 => ?_)
                            · have fc_341 := eq_f c_341
                              exact absurd fc_341 fc_5
                            · have fc_341 := neq_f c_341
                              have b_342 : bd 1 1 v4_2 := neX fc_341 bv4_2 kb_0 (by decide)
                              refine lv_aload_n hx hb dX0_closeParts_15 rfl (lv_at hl 5 rfl) ?_
                              refine g_getk (C := RX0) (T := TX0) (N := 14) hx hb hts (mc_ inX0) hown hK g rfl 8 (by decide) rfl (hts _ (List.mem_cons_of_mem _ t_381)) (fun _ h9 => h9) 6 rfl dX0_closeParts_16 ?_
                              refine lv_if_le (tgt := 251) hx hb dX0_closeParts_19 (by decide) (fun c_343 => ?_) (fun c_343 => ?_)
                              · have fc_343 := le_f c_343
                                have b_344 : bd 0 0 w4_0_8_a0_ := leL fc_343 bw4_0_8_a0_ kb_0 (by decide)
                                subst hQ
                                exact W.vret hx hb hr (fun t ht hW => ⟨⟨_, rfl, Or.inr (⟨x_332, h_333, w4_0_10_a0_, bw4_0_10_a0_, w4_7_6_q1_, bw4_7_6_q1_, w4_0_8_a0_, (bd_sub b_344 (by decide)), (g.fcts [0, 1, 3, 4, 5, 6] rfl)⟩), q3_of g hK ht hW⟩, g.2.2.1.F ht⟩) g.2.2.1.2.2 dX0_closeParts_251
                              · have fc_343 := nle_f c_343
                                have b_345 : bd 1 299 w4_0_8_a0_ := ltR fc_343 kb_0 bw4_0_8_a0_ (by decide)
                                refine lv_aload_n hx hb dX0_closeParts_22 rfl (lv_at hl 5 rfl) ?_
                                refine g_getk (C := RX0) (T := TX0) (N := 14) hx hb hts (mc_ inX0) hown hK g rfl 3 (by decide) rfl (hts _ (List.mem_cons_of_mem _ t_376)) (fun _ h9 => h9) 7 rfl dX0_closeParts_23 ?_
                                refine lv_aload_n hx hb dX0_closeParts_26 rfl (lv_at hl 5 rfl) ?_
                                refine g_getk (C := RX0) (T := TX0) (N := 14) hx hb hts (mc_ inX0) hown hK g rfl 8 (by decide) rfl (hts _ (List.mem_cons_of_mem _ t_381)) (fun _ h9 => h9) 6 rfl dX0_closeParts_27 ?_
                                refine lv_iconst (v := 1) hx hb dX0_closeParts_30 (by decide) ?_
                                refine lv_isub hx hb dX0_closeParts_31 ?_
                                refine lv_topi (fun y_346 ey_346 => ?_)
                                have ty_346 := sub_bd ey_346 b_345 kb_1 (by decide)
                                have b_347 : bd 0 298 y_346 := sub_rg ty_346 b_345 kb_1 (by decide)
                                refine g_iald hx hb hK g mg76_0_3_a0_ kg76_0_3_a0_ (by decide) rfl (in_bd b_347 (by decide)) dX0_closeParts_32 (fun x_348 bx_348 cx_348 => ?_)
                                refine lv_istore (lv' := [(4, .int x_348), (3, .int v4_3), (6, .int v4_6), (2, .int v4_2), (5, .int v4_5), (0, .ref a0_), (1, .int x1_)]) hx hb dX0_closeParts_33 hl (by decide) rfl (fun ls hl => ?_)
                                refine lv_iload hx hb dX0_closeParts_35 (lv_at hl 0 rfl) ?_
                                refine lv_bipush (v := 6) hx hb dX0_closeParts_37 (by decide) ?_
                                have kb_6 : bd 6 6 (6 : Int32) := ⟨by decide, by decide⟩
                                refine lv_icmp_eq (tgt := 49) hx hb dX0_closeParts_39 (by decide) (fun c_349 => ?_) (fun c_349 => ?_)
                                · have fc_349 := eq_f c_349
                                  have b_350 : bd 6 6 x_348 := eqX fc_349 (bdT x_348) kb_6 (by decide)
                                  refine lv_iconst (v := 1) hx hb dX0_closeParts_49 (by decide) ?_
                                  refine lv_goto (tgt := 54) hx hb dX0_closeParts_50 (by decide) ?_
                                  refine lv_istore (lv' := [(5, .int 1), (4, .int x_348), (3, .int v4_3), (6, .int v4_6), (2, .int v4_2), (0, .ref a0_), (1, .int x1_)]) hx hb dX0_closeParts_54 hl (by decide) rfl (fun ls hl => ?_)
                                  refine lv_iload hx hb dX0_closeParts_56 (lv_at hl 0 rfl) ?_
                                  refine lv_if_ne (tgt := 70) hx hb dX0_closeParts_58 (by decide) (fun c_ => ?_) (fun c_ => absurd c_ (by decide))
                                  refine lv_iconst (v := 1) hx hb dX0_closeParts_70 (by decide) ?_
                                  refine lv_goto (tgt := 75) hx hb dX0_closeParts_71 (by decide) ?_
                                  refine lv_istore_n (lv' := [(2, .int 1), (5, .int 1), (4, .int x_348), (3, .int v4_3), (6, .int v4_6), (0, .ref a0_), (1, .int x1_)]) hx hb dX0_closeParts_75 rfl hl (by decide) rfl (fun ls hl => ?_)
                                  refine lv_iload_n hx hb dX0_closeParts_76 rfl (lv_at hl 0 rfl) ?_
                                  refine lv_if_eq (tgt := 245) hx hb dX0_closeParts_77 (by decide) (fun c_ => absurd c_ (by decide)) (fun c_ => ?_)
                                  refine lv_aload_n hx hb dX0_closeParts_80 rfl (lv_at hl 5 rfl) ?_
                                  refine lv_dup hx hb dX0_closeParts_81 rfl ?_
                                  refine g_getk (C := RX0) (T := TX0) (N := 14) hx hb hts (mc_ inX0) hown hK g rfl 8 (by decide) rfl (hts _ (List.mem_cons_of_mem _ t_381)) (fun _ h9 => h9) 6 rfl dX0_closeParts_82 ?_
                                  refine lv_iconst (v := 1) hx hb dX0_closeParts_85 (by decide) ?_
                                  refine lv_isub hx hb dX0_closeParts_86 ?_
                                  refine lv_topi (fun y_351 ey_351 => ?_)
                                  obtain rfl : y_346 = y_351 := ey_346.trans ey_351.symm
                                  refine g_put (C := RX0) (T := TX0) (N := 14) hx hb hts (mc_ inX0) tyX0 tyX0_ok nmX0 hown hK g ma0_ ka0_ (by decide) rfl 8 (by decide) (hts _ (List.mem_cons_of_mem _ t_381)) (fun _ h9 => h9) rfl rfl (okV_i (bd_sub b_347 (by decide))) rfl rfl (by decide) (Or.inr (Or.inl (by decide))) (fx' := [(8, 6, q0_, .int 1201), (8, 8, q0_, .int x_332), (0, 4, a0_, .ref a_329), (0, 12, a0_, .int 0), (0, 10, a0_, .int w4_0_10_a0_), (7, 6, q1_, .int w4_7_6_q1_), (0, 3, a0_, .ref g76_0_3_a0_), (0, 0, a0_, .ref q0_), (0, 2, a0_, .ref q1_)]) rfl dX0_closeParts_87 (fun f H locs hM_352 g => ?_)
                                  refine lv_aload_n hx hb dX0_closeParts_90 rfl (lv_at hl 5 rfl) ?_
                                  refine g_calli (va_runV (As := []) (rest := []) ⟨hx, hb, hml, hown, hts⟩ (r_X0_takeHeight l dC dI L kd tys f H.size g.2.2.2.1 a0_ ma0_ ka0_) (cwV 0 hts (gV_ t_1199 t_1201 t_16 t_190 t_1202) rfl rfl rfl (by decide +kernel) ⟨(Nat.le_of_ble_eq_true rfl), (Nat.le_of_ble_eq_true rfl)⟩) (pre3V g hK ma0_ ka0_ (by decide) (q := (RX0, TX0, 14)) rfl) rfl rfl hl.1 rfl (lv_room (Nat.le_of_ble_eq_true rfl)) dX0_closeParts_91 ⟨(Nat.le_of_ble_eq_true rfl), (Nat.le_of_ble_eq_true rfl)⟩) g hK (by decide) (by decide) (fx' := [(0, 8, a0_, .int y_346), (8, 6, q0_, .int 1201), (8, 8, q0_, .int x_332), (0, 4, a0_, .ref a_329), (0, 12, a0_, .int 0), (7, 6, q1_, .int w4_7_6_q1_), (0, 3, a0_, .ref g76_0_3_a0_), (0, 0, a0_, .ref q0_), (0, 2, a0_, .ref q1_)]) rfl (fun r_353 fr_353 H locs hp hMr_353 g => ?_)
                                  obtain ⟨x_354, h_355, hF_356⟩ := hp
                                  have g := g.more hF_356
                                  refine lv_istore (lv' := [(6, .int r_353), (2, .int 1), (5, .int 1), (4, .int x_348), (3, .int v4_3), (0, .ref a0_), (1, .int x1_)]) hx hb dX0_closeParts_94 hl (by decide) rfl (fun ls hl => ?_)
                                  refine lv_iload hx hb dX0_closeParts_96 (lv_at hl 2 rfl) ?_
                                  refine lv_if_eq (tgt := 136) hx hb dX0_closeParts_98 (by decide) (fun c_ => absurd c_ (by decide)) (fun c_ => ?_)
                                  refine lv_aload_n hx hb dX0_closeParts_101 rfl (lv_at hl 5 rfl) ?_
                                  refine lv_dup hx hb dX0_closeParts_102 rfl ?_
                                  refine g_geti (C := RX0) (T := TX0) (N := 14) hx hb hts (mc_ inX0) hown hK g ma0_ ka0_ (by decide) rfl 11 (by decide) rfl (hts _ (List.mem_cons_of_mem _ t_384)) (fun _ h9 => h9) rfl dX0_closeParts_103 (fun x_357 bx_357 g => ?_)
                                  refine lv_iconst (v := 1) hx hb dX0_closeParts_106 (by decide) ?_
                                  refine lv_isub hx hb dX0_closeParts_107 ?_
                                  refine lv_topi (fun y_358 ey_358 => ?_)
                                  refine g_put (C := RX0) (T := TX0) (N := 14) hx hb hts (mc_ inX0) tyX0 tyX0_ok nmX0 hown hK g ma0_ ka0_ (by decide) rfl 11 (by decide) (hts _ (List.mem_cons_of_mem _ t_384)) (fun _ h9 => h9) rfl rfl (okV_i (bdT y_358)) rfl rfl (by decide) (Or.inr (Or.inl (by decide))) (fx' := [(0, 10, a0_, .int x_354), (0, 8, a0_, .int y_346), (8, 6, q0_, .int 1201), (8, 8, q0_, .int x_332), (0, 4, a0_, .ref a_329), (0, 12, a0_, .int 0), (7, 6, q1_, .int w4_7_6_q1_), (0, 3, a0_, .ref g76_0_3_a0_), (0, 0, a0_, .ref q0_), (0, 2, a0_, .ref q1_)]) rfl dX0_closeParts_108 (fun f H locs hM_359 g => ?_)
                                  refine lv_aload_n hx hb dX0_closeParts_111 rfl (lv_at hl 5 rfl) ?_
                                  refine g_getk (C := RX0) (T := TX0) (N := 14) hx hb hts (mc_ inX0) hown hK g rfl 2 (by decide) rfl (hts _ (List.mem_cons_of_mem _ t_375)) (fun _ h9 => h9) 10 rfl dX0_closeParts_112 ?_
                                  refine lv_iload hx hb dX0_closeParts_115 (lv_at hl 3 rfl) ?_
                                  refine lv_bipush (v := 6) hx hb dX0_closeParts_117 (by decide) ?_
                                  refine lv_icmp_ne (tgt := 127) hx hb dX0_closeParts_119 (by decide) (fun c_360 => ?_) (fun c_360 => ?_)
                                  · have fc_360 := neq_f c_360
                                    have b_361 : bd 7 5 x_348 := neX fc_360 b_350 kb_6 (by decide)
                                    exact bd_no b_361 (by decide)
                                  · have fc_360 := eq_f c_360
                                    refine lv_bipush (v := 6) hx hb dX0_closeParts_122 (by decide) ?_
                                    refine lv_goto (tgt := 129) hx hb dX0_closeParts_124 (by decide) ?_
                                    refine lv_iconst (v := 0) hx hb dX0_closeParts_129 (by decide) ?_
                                    refine g_callv (va_runV (As := [.int 6, .int 0]) (rest := []) ⟨hx, hb, hml, hown, hts⟩ (r_X7_emit l dC dI L kd tys f H.size g.2.2.2.1 q1_ mq1_ kq1_ 6 0) (cwV 2 hts (gV_ t_1203 t_1204 t_1205 t_191 t_1206) rfl rfl rfl (by decide +kernel) ⟨(Nat.le_of_ble_eq_true rfl), (Nat.le_of_ble_eq_true rfl)⟩) (pre3V g hK mq1_ kq1_ (by decide) (q := (RX7, TX7, 19)) rfl) rfl rfl hl.1 rfl (lv_room (Nat.le_of_ble_eq_true rfl)) dX0_closeParts_130 ⟨(Nat.le_of_ble_eq_true rfl), (Nat.le_of_ble_eq_true rfl)⟩) g hK (by decide) (by decide) (fx' := [(0, 11, a0_, .int y_358), (0, 10, a0_, .int x_354), (0, 8, a0_, .int y_346), (8, 6, q0_, .int 1201), (8, 8, q0_, .int x_332), (0, 4, a0_, .ref a_329), (0, 12, a0_, .int 0), (0, 3, a0_, .ref g76_0_3_a0_), (0, 0, a0_, .ref q0_), (0, 2, a0_, .ref q1_)]) rfl (fun fr_362 H locs hp hMr_362 g => ?_)
                                    obtain ⟨x_363, h_364, hF_365⟩ := hp
                                    have g := g.more hF_365
                                    refine lv_goto (tgt := 191) hx hb dX0_closeParts_133 (by decide) ?_
                                    refine lv_iconst (v := 1) hx hb dX0_closeParts_191 (by decide) ?_
                                    refine lv_iload hx hb dX0_closeParts_192 (lv_at hl 2 rfl) ?_
                                    refine lv_if_eq (tgt := 202) hx hb dX0_closeParts_194 (by decide) (fun c_ => absurd c_ (by decide)) (fun c_ => ?_)
                                    refine lv_iload hx hb dX0_closeParts_197 (lv_at hl 0 rfl) ?_
                                    refine lv_goto (tgt := 211) hx hb dX0_closeParts_199 (by decide) ?_
                                    refine lv_iadd hx hb dX0_closeParts_211 ?_
                                    refine lv_topi (fun y_366 ey_366 => ?_)
                                    refine lv_istore (lv' := [(6, .int y_366), (2, .int 1), (5, .int 1), (4, .int x_348), (3, .int v4_3), (0, .ref a0_), (1, .int x1_)]) hx hb dX0_closeParts_212 hl (by decide) rfl (fun ls hl => ?_)
                                    refine lv_aload_n hx hb dX0_closeParts_214 rfl (lv_at hl 5 rfl) ?_
                                    refine lv_iload hx hb dX0_closeParts_215 (lv_at hl 0 rfl) ?_
                                    refine g_callv (va_runV (As := [.int y_366]) (rest := []) ⟨hx, hb, hml, hown, hts⟩ (r_X0_addWhole l dC dI L kd tys fr_362 H.size g.2.2.2.1 a0_ ma0_ ka0_ y_366) (cwV 1 hts (gV_ t_1211 t_1213 t_17 t_190 t_1214) rfl rfl rfl (by decide +kernel) ⟨(Nat.le_of_ble_eq_true rfl), (Nat.le_of_ble_eq_true rfl)⟩) (pre3V g hK ma0_ ka0_ (by decide) (q := (RX0, TX0, 14)) rfl) rfl rfl hl.1 rfl (lv_room (Nat.le_of_ble_eq_true rfl)) dX0_closeParts_217 ⟨(Nat.le_of_ble_eq_true rfl), (Nat.le_of_ble_eq_true rfl)⟩) g hK (by decide) (by decide) (fx' := [(7, 6, q1_, .int x_363), (0, 11, a0_, .int y_358), (0, 8, a0_, .int y_346), (8, 6, q0_, .int 1201), (8, 8, q0_, .int x_332), (0, 4, a0_, .ref a_329), (0, 3, a0_, .ref g76_0_3_a0_), (0, 0, a0_, .ref q0_), (0, 2, a0_, .ref q1_)]) rfl (fun fr_367 H locs hp hMr_367 g => ?_)
                                    obtain ⟨x_368, h_369, hF_370⟩ := hp
                                    have g := g.more hF_370
                                    refine lv_iload hx hb dX0_closeParts_220 (lv_at hl 0 rfl) ?_
                                    refine lv_bipush (v := 12) hx hb dX0_closeParts_222 (by decide) ?_
                                    refine lv_icmp_le (tgt := 245) hx hb dX0_closeParts_224 (by decide) (fun c_371 => ?_) (fun c_371 => ?_)
                                    · have fc_371 := le_f c_371
                                      have b_372 : bd (-2147483648) 12 y_366 := leL fc_371 (bdT y_366) kb_12 (by decide)
                                      obtain ⟨y_373, ey_373⟩ : ∃ z : Int32, z = v4_3 + 1 := ⟨_, rfl⟩
                                      refine lv_iinc (v := y_373) (lv' := [(3, .int y_373), (6, .int y_366), (2, .int 1), (5, .int 1), (4, .int x_348), (0, .ref a0_), (1, .int x1_)]) hx hb dX0_closeParts_245 hl (k := 4) rfl (by rw [ey_373]; rfl) (by decide) rfl (fun ls hl => ?_)
                                      have ty_373 := add_bd ey_373 b_340 kb_1 (by decide)
                                      have b_374 : bd 2 300 y_373 := add_rg ty_373 b_340 kb_1 (by decide)
                                      refine lv_goto (tgt := 4) hx hb dX0_closeParts_248 (by decide) ?_
                                      have hl9 := lv_sub hl [0, 1, 2, 3, 4, 5, 6] (by rfl : lv_pick [(3, .int y_373), (6, .int y_366), (2, .int 1), (5, .int 1), (4, .int x_348), (0, .ref a0_), (1, .int x1_)] [0, 1, 2, 3, 4, 5, 6] = [(3, .int y_373), (6, .int y_366), (2, .int 1), (5, .int 1), (4, .int x_348), (0, .ref a0_), (1, .int x1_)])
                                      have g9 := g.sub (fx' := [(8, 6, q0_, .int 1201), (8, 8, q0_, .int x_332), (0, 4, a0_, .ref a_329), (0, 12, a0_, .int 0), (0, 10, a0_, .int x_368), (7, 6, q1_, .int x_363), (0, 8, a0_, .int y_346), (0, 3, a0_, .ref g76_0_3_a0_), (0, 0, a0_, .ref q0_), (0, 2, a0_, .ref q1_)]) [5, 6, 7, 0, 1, 2, 4, 8, 9, 10] rfl
                                      exact ih4  y_373 y_366 1 1 x_348 x_368 x_363 y_346 (bd_sub b_374 (by decide)) (bd_sub kb_1 (by decide)) (bd_sub kb_1 (by decide)) h_369 h_364 (bd_sub b_347 (by decide)) (by have h9_0 := b_347; unfold bd at h9_0; have h9_1 := b_350; unfold bd at h9_1; have h9_2 := b_372; unfold bd at h9_2; have h9_3 := b_374; unfold bd at h9_3; have h9_4 := bdT v4_4; unfold bd at h9_4; have h9_5 := bdT v4_6; unfold bd at h9_5; have h9_6 := bv4_2; unfold bd at h9_6; have h9_7 := bv4_3; unfold bd at h9_7; have h9_8 := bv4_5; unfold bd at h9_8; have h9_9 := bw4_0_10_a0_; unfold bd at h9_9; have h9_10 := bw4_0_8_a0_; unfold bd at h9_10; have h9_11 := bw4_7_6_q1_; unfold bd at h9_11; have h9_12 := h_364; unfold bd at h9_12; have h9_13 := h_369; unfold bd at h9_13; have h9_14 := kb_0; unfold bd at h9_14; have h9_15 := kb_1; unfold bd at h9_15; have h9_16 := kb_12; unfold bd at h9_16; have h9_17 := kb_300; unfold bd at h9_17; have h9_18 := kb_6; unfold bd at h9_18; have h9_19 := kb_7; unfold bd at h9_19; omega) _ _ _ _ g9  hl9
                                    · have fc_371 := nle_f c_371
                                      have b_375 : bd 13 2147483647 y_366 := ltR fc_371 kb_12 (bdT y_366) (by decide)
                                      refine lv_aload_n hx hb dX0_closeParts_227 rfl (lv_at hl 5 rfl) ?_
                                      refine g_getk (C := RX0) (T := TX0) (N := 14) hx hb hts (mc_ inX0) hown hK g rfl 0 (by decide) rfl (hts _ (List.mem_cons_of_mem _ t_373)) (fun _ h9 => h9) 9 rfl dX0_closeParts_228 ?_
                                      refine lv_bipush (v := 7) hx hb dX0_closeParts_231 (by decide) ?_
                                      refine lv_aload_n hx hb dX0_closeParts_233 rfl (lv_at hl 5 rfl) ?_
                                      refine g_getk (C := RX0) (T := TX0) (N := 14) hx hb hts (mc_ inX0) hown hK g rfl 4 (by decide) rfl (hts _ (List.mem_cons_of_mem _ t_377)) (fun _ h9 => h9) 7 rfl dX0_closeParts_234 ?_
                                      refine lv_aload_n hx hb dX0_closeParts_237 rfl (lv_at hl 5 rfl) ?_
                                      refine g_getk (C := RX0) (T := TX0) (N := 14) hx hb hts (mc_ inX0) hown hK g rfl 8 (by decide) rfl (hts _ (List.mem_cons_of_mem _ t_381)) (fun _ h9 => h9) 4 rfl dX0_closeParts_238 ?_
                                      refine g_iald hx hb hK g ma_329 ka_329 (by decide) rfl (in_bd b_347 (by decide)) dX0_closeParts_241 (fun x_376 bx_376 cx_376 => ?_)
                                      refine g_callv (va_runV (As := [.int 7, .int x_376]) (rest := []) ⟨hx, hb, hml, hown, hts⟩ (r_X8_fail_2 l dC dI L kd tys fr_367 H.size g.2.2.2.1 q0_ mq0_ kq0_ 7 (bd_sub kb_7 (by decide)) x_376 x_332 h_333 (g.fcts [6] rfl)) (cwV 2 hts (gV_ t_1215 t_1107 t_1108 t_184 t_1109) rfl rfl rfl (by decide +kernel) ⟨(Nat.le_of_ble_eq_true rfl), (Nat.le_of_ble_eq_true rfl)⟩) (pre3V g hK mq0_ kq0_ (by decide) (q := (RX8, TX8, 10)) rfl) rfl rfl hl.1 rfl (lv_room (Nat.le_of_ble_eq_true rfl)) dX0_closeParts_242 ⟨(Nat.le_of_ble_eq_true rfl), (Nat.le_of_ble_eq_true rfl)⟩) g hK (by decide) (by decide) (fx' := [(0, 12, a0_, .int 0), (0, 10, a0_, .int x_368), (7, 6, q1_, .int x_363), (0, 11, a0_, .int y_358), (0, 8, a0_, .int y_346), (8, 8, q0_, .int x_332), (0, 4, a0_, .ref a_329), (0, 3, a0_, .ref g76_0_3_a0_), (0, 0, a0_, .ref q0_), (0, 2, a0_, .ref q1_)]) rfl (fun fr_377 H locs hp hMr_377 g => ?_)
                                      have hF_378 := hp
                                      have g := g.more hF_378
                                      obtain ⟨y_379, ey_379⟩ : ∃ z : Int32, z = v4_3 + 1 := ⟨_, rfl⟩
                                      refine lv_iinc (v := y_379) (lv' := [(3, .int y_379), (6, .int y_366), (2, .int 1), (5, .int 1), (4, .int x_348), (0, .ref a0_), (1, .int x1_)]) hx hb dX0_closeParts_245 hl (k := 4) rfl (by rw [ey_379]; rfl) (by decide) rfl (fun ls hl => ?_)
                                      have ty_379 := add_bd ey_379 b_340 kb_1 (by decide)
                                      have b_380 : bd 2 300 y_379 := add_rg ty_379 b_340 kb_1 (by decide)
                                      refine lv_goto (tgt := 4) hx hb dX0_closeParts_248 (by decide) ?_
                                      have hl9 := lv_sub hl [0, 1, 2, 3, 4, 5, 6] (by rfl : lv_pick [(3, .int y_379), (6, .int y_366), (2, .int 1), (5, .int 1), (4, .int x_348), (0, .ref a0_), (1, .int x1_)] [0, 1, 2, 3, 4, 5, 6] = [(3, .int y_379), (6, .int y_366), (2, .int 1), (5, .int 1), (4, .int x_348), (0, .ref a0_), (1, .int x1_)])
                                      have g9 := g.sub (fx' := [(8, 6, q0_, .int 1201), (8, 8, q0_, .int x_332), (0, 4, a0_, .ref a_329), (0, 12, a0_, .int 0), (0, 10, a0_, .int x_368), (7, 6, q1_, .int x_363), (0, 8, a0_, .int y_346), (0, 3, a0_, .ref g76_0_3_a0_), (0, 0, a0_, .ref q0_), (0, 2, a0_, .ref q1_)]) [0, 6, 7, 1, 2, 3, 5, 8, 9, 10] rfl
                                      exact ih4  y_379 y_366 1 1 x_348 x_368 x_363 y_346 (bd_sub b_380 (by decide)) (bd_sub kb_1 (by decide)) (bd_sub kb_1 (by decide)) h_369 h_364 (bd_sub b_347 (by decide)) (by have h9_0 := b_347; unfold bd at h9_0; have h9_1 := b_350; unfold bd at h9_1; have h9_2 := b_375; unfold bd at h9_2; have h9_3 := b_380; unfold bd at h9_3; have h9_4 := bdT v4_4; unfold bd at h9_4; have h9_5 := bdT v4_6; unfold bd at h9_5; have h9_6 := bv4_2; unfold bd at h9_6; have h9_7 := bv4_3; unfold bd at h9_7; have h9_8 := bv4_5; unfold bd at h9_8; have h9_9 := bw4_0_10_a0_; unfold bd at h9_9; have h9_10 := bw4_0_8_a0_; unfold bd at h9_10; have h9_11 := bw4_7_6_q1_; unfold bd at h9_11; have h9_12 := h_364; unfold bd at h9_12; have h9_13 := h_369; unfold bd at h9_13; have h9_14 := kb_0; unfold bd at h9_14; have h9_15 := kb_1; unfold bd at h9_15; have h9_16 := kb_12; unfold bd at h9_16; have h9_17 := kb_300; unfold bd at h9_17; have h9_18 := kb_6; unfold bd at h9_18; have h9_19 := kb_7; unfold bd at h9_19; omega) _ _ _ _ g9  hl9
                                · have fc_349 := neq_f c_349
                                  refine lv_iload hx hb dX0_closeParts_42 (lv_at hl 0 rfl) ?_
                                  refine lv_bipush (v := 7) hx hb dX0_closeParts_44 (by decide) ?_
                                  refine lv_icmp_ne (tgt := 53) hx hb dX0_closeParts_46 (by decide) (fun c_381 => ?_) (fun c_381 => ?_)
                                  · have fc_381 := neq_f c_381
                                    refine lv_iconst (v := 0) hx hb dX0_closeParts_53 (by decide) ?_
                                    refine lv_istore (lv' := [(5, .int 0), (4, .int x_348), (3, .int v4_3), (6, .int v4_6), (2, .int v4_2), (0, .ref a0_), (1, .int x1_)]) hx hb dX0_closeParts_54 hl (by decide) rfl (fun ls hl => ?_)
                                    refine lv_iload hx hb dX0_closeParts_56 (lv_at hl 0 rfl) ?_
                                    refine lv_if_ne (tgt := 70) hx hb dX0_closeParts_58 (by decide) (fun c_ => absurd c_ (by decide)) (fun c_ => ?_)
                                    refine lv_iload hx hb dX0_closeParts_61 (lv_at hl 1 rfl) ?_
                                    refine g_calli (va_runS (As := [.int x_348]) (rest := []) ⟨hx, hb, hml, hown, hts⟩ (r_X0_levelOf l dC dI L kd tys f H.size g.2.2.2.1 x_348) (va_cwS 1 hts (gS_ t_1191 t_1192 t_190 t_1193) rfl rfl rfl (by decide +kernel) ⟨(Nat.le_of_ble_eq_true rfl), (Nat.le_of_ble_eq_true rfl)⟩) (pre3S g hK) rfl rfl hl.1 rfl (lv_room (Nat.le_of_ble_eq_true rfl)) dX0_closeParts_63 ⟨(Nat.le_of_ble_eq_true rfl), (Nat.le_of_ble_eq_true rfl)⟩) g hK (by decide) (by decide) (fx' := [(8, 6, q0_, .int 1201), (8, 8, q0_, .int x_332), (0, 4, a0_, .ref a_329), (0, 12, a0_, .int 0), (0, 10, a0_, .int w4_0_10_a0_), (7, 6, q1_, .int w4_7_6_q1_), (0, 8, a0_, .int w4_0_8_a0_), (0, 3, a0_, .ref g76_0_3_a0_), (0, 0, a0_, .ref q0_), (0, 2, a0_, .ref q1_)]) rfl (fun r_382 fr_382 H locs hp hMr_382 g => ?_)
                                    rcases hp with ⟨h_383, -⟩ | ⟨h_384, h_385, -⟩
                                    · obtain rfl : r_382 = 0 := h_383
                                      refine lv_iload_n hx hb dX0_closeParts_66 rfl (lv_at hl 6 rfl) ?_
                                      refine lv_icmp_lt (tgt := 74) hx hb dX0_closeParts_67 (by decide) (fun c_386 => ?_) (fun c_386 => ?_)
                                      · have fc_386 := lt_f c_386
                                        have b_387 : bd 1 2147483647 x1_ := ltR fc_386 kb_0 (bdT x1_) (by decide)
                                        refine lv_iconst (v := 0) hx hb dX0_closeParts_74 (by decide) ?_
                                        refine lv_istore_n (lv' := [(2, .int 0), (5, .int 0), (4, .int x_348), (3, .int v4_3), (6, .int v4_6), (0, .ref a0_), (1, .int x1_)]) hx hb dX0_closeParts_75 rfl hl (by decide) rfl (fun ls hl => ?_)
                                        refine lv_iload_n hx hb dX0_closeParts_76 rfl (lv_at hl 0 rfl) ?_
                                        refine lv_if_eq (tgt := 245) hx hb dX0_closeParts_77 (by decide) (fun c_ => ?_) (fun c_ => absurd (by decide) c_)
                                        obtain ⟨y_388, ey_388⟩ : ∃ z : Int32, z = v4_3 + 1 := ⟨_, rfl⟩
                                        refine lv_iinc (v := y_388) (lv' := [(3, .int y_388), (2, .int 0), (5, .int 0), (4, .int x_348), (6, .int v4_6), (0, .ref a0_), (1, .int x1_)]) hx hb dX0_closeParts_245 hl (k := 3) rfl (by rw [ey_388]; rfl) (by decide) rfl (fun ls hl => ?_)
                                        have ty_388 := add_bd ey_388 b_340 kb_1 (by decide)
                                        have b_389 : bd 2 300 y_388 := add_rg ty_388 b_340 kb_1 (by decide)
                                        refine lv_goto (tgt := 4) hx hb dX0_closeParts_248 (by decide) ?_
                                        have hl9 := lv_sub hl [0, 4, 1, 2, 3, 5, 6] (by rfl : lv_pick [(3, .int y_388), (2, .int 0), (5, .int 0), (4, .int x_348), (6, .int v4_6), (0, .ref a0_), (1, .int x1_)] [0, 4, 1, 2, 3, 5, 6] = [(3, .int y_388), (6, .int v4_6), (2, .int 0), (5, .int 0), (4, .int x_348), (0, .ref a0_), (1, .int x1_)])
                                        have g9 := g.sub (fx' := [(8, 6, q0_, .int 1201), (8, 8, q0_, .int x_332), (0, 4, a0_, .ref a_329), (0, 12, a0_, .int 0), (0, 10, a0_, .int w4_0_10_a0_), (7, 6, q1_, .int w4_7_6_q1_), (0, 8, a0_, .int w4_0_8_a0_), (0, 3, a0_, .ref g76_0_3_a0_), (0, 0, a0_, .ref q0_), (0, 2, a0_, .ref q1_)]) [0, 1, 2, 3, 4, 5, 6, 7, 8, 9] rfl
                                        exact ih4  y_388 v4_6 0 0 x_348 w4_0_10_a0_ w4_7_6_q1_ w4_0_8_a0_ (bd_sub b_389 (by decide)) (bd_sub kb_0 (by decide)) (bd_sub kb_0 (by decide)) bw4_0_10_a0_ bw4_7_6_q1_ (bd_sub b_345 (by decide)) (by have h9_0 := b_345; unfold bd at h9_0; have h9_1 := b_389; unfold bd at h9_1; have h9_2 := bdT v4_4; unfold bd at h9_2; have h9_3 := bdT v4_6; unfold bd at h9_3; have h9_4 := bdT x_348; unfold bd at h9_4; have h9_5 := bv4_2; unfold bd at h9_5; have h9_6 := bv4_3; unfold bd at h9_6; have h9_7 := bv4_5; unfold bd at h9_7; have h9_8 := bw4_0_10_a0_; unfold bd at h9_8; have h9_9 := bw4_0_8_a0_; unfold bd at h9_9; have h9_10 := bw4_7_6_q1_; unfold bd at h9_10; have h9_11 := kb_0; unfold bd at h9_11; have h9_12 := kb_1; unfold bd at h9_12; have h9_13 := kb_12; unfold bd at h9_13; have h9_14 := kb_300; unfold bd at h9_14; have h9_15 := kb_6; unfold bd at h9_15; have h9_16 := kb_7; unfold bd at h9_16; omega) _ _ _ _ g9  hl9
                                      · have fc_386 := nlt_f c_386
                                        have b_390 : bd (-2147483648) 0 x1_ := leL fc_386 (bdT x1_) kb_0 (by decide)
                                        refine lv_iconst (v := 1) hx hb dX0_closeParts_70 (by decide) ?_
                                        refine lv_goto (tgt := 75) hx hb dX0_closeParts_71 (by decide) ?_
                                        refine lv_istore_n (lv' := [(2, .int 1), (5, .int 0), (4, .int x_348), (3, .int v4_3), (6, .int v4_6), (0, .ref a0_), (1, .int x1_)]) hx hb dX0_closeParts_75 rfl hl (by decide) rfl (fun ls hl => ?_)
                                        refine lv_iload_n hx hb dX0_closeParts_76 rfl (lv_at hl 0 rfl) ?_
                                        refine lv_if_eq (tgt := 245) hx hb dX0_closeParts_77 (by decide) (fun c_ => absurd c_ (by decide)) (fun c_ => ?_)
                                        refine lv_aload_n hx hb dX0_closeParts_80 rfl (lv_at hl 5 rfl) ?_
                                        refine lv_dup hx hb dX0_closeParts_81 rfl ?_
                                        refine g_getk (C := RX0) (T := TX0) (N := 14) hx hb hts (mc_ inX0) hown hK g rfl 8 (by decide) rfl (hts _ (List.mem_cons_of_mem _ t_381)) (fun _ h9 => h9) 6 rfl dX0_closeParts_82 ?_
                                        refine lv_iconst (v := 1) hx hb dX0_closeParts_85 (by decide) ?_
                                        refine lv_isub hx hb dX0_closeParts_86 ?_
                                        refine lv_topi (fun y_391 ey_391 => ?_)
                                        obtain rfl : y_346 = y_391 := ey_346.trans ey_391.symm
                                        refine g_put (C := RX0) (T := TX0) (N := 14) hx hb hts (mc_ inX0) tyX0 tyX0_ok nmX0 hown hK g ma0_ ka0_ (by decide) rfl 8 (by decide) (hts _ (List.mem_cons_of_mem _ t_381)) (fun _ h9 => h9) rfl rfl (okV_i (bd_sub b_347 (by decide))) rfl rfl (by decide) (Or.inr (Or.inl (by decide))) (fx' := [(8, 6, q0_, .int 1201), (8, 8, q0_, .int x_332), (0, 4, a0_, .ref a_329), (0, 12, a0_, .int 0), (0, 10, a0_, .int w4_0_10_a0_), (7, 6, q1_, .int w4_7_6_q1_), (0, 3, a0_, .ref g76_0_3_a0_), (0, 0, a0_, .ref q0_), (0, 2, a0_, .ref q1_)]) rfl dX0_closeParts_87 (fun f H locs hM_392 g => ?_)
                                        refine lv_aload_n hx hb dX0_closeParts_90 rfl (lv_at hl 5 rfl) ?_
                                        refine g_calli (va_runV (As := []) (rest := []) ⟨hx, hb, hml, hown, hts⟩ (r_X0_takeHeight l dC dI L kd tys f H.size g.2.2.2.1 a0_ ma0_ ka0_) (cwV 0 hts (gV_ t_1199 t_1201 t_16 t_190 t_1202) rfl rfl rfl (by decide +kernel) ⟨(Nat.le_of_ble_eq_true rfl), (Nat.le_of_ble_eq_true rfl)⟩) (pre3V g hK ma0_ ka0_ (by decide) (q := (RX0, TX0, 14)) rfl) rfl rfl hl.1 rfl (lv_room (Nat.le_of_ble_eq_true rfl)) dX0_closeParts_91 ⟨(Nat.le_of_ble_eq_true rfl), (Nat.le_of_ble_eq_true rfl)⟩) g hK (by decide) (by decide) (fx' := [(0, 8, a0_, .int y_346), (8, 6, q0_, .int 1201), (8, 8, q0_, .int x_332), (0, 4, a0_, .ref a_329), (0, 12, a0_, .int 0), (7, 6, q1_, .int w4_7_6_q1_), (0, 3, a0_, .ref g76_0_3_a0_), (0, 0, a0_, .ref q0_), (0, 2, a0_, .ref q1_)]) rfl (fun r_393 fr_393 H locs hp hMr_393 g => ?_)
                                        obtain ⟨x_394, h_395, hF_396⟩ := hp
                                        have g := g.more hF_396
                                        refine lv_istore (lv' := [(6, .int r_393), (2, .int 1), (5, .int 0), (4, .int x_348), (3, .int v4_3), (0, .ref a0_), (1, .int x1_)]) hx hb dX0_closeParts_94 hl (by decide) rfl (fun ls hl => ?_)
                                        refine lv_iload hx hb dX0_closeParts_96 (lv_at hl 2 rfl) ?_
                                        refine lv_if_eq (tgt := 136) hx hb dX0_closeParts_98 (by decide) (fun c_ => ?_) (fun c_ => absurd (by decide) c_)
                                        refine lv_iload hx hb dX0_closeParts_136 (lv_at hl 3 rfl) ?_
                                        refine lv_sipush (v := 205) hx hb dX0_closeParts_138 (by decide) ?_
                                        have kb_205 : bd 205 205 (205 : Int32) := ⟨by decide, by decide⟩
                                        refine lv_icmp_eq (tgt := 152) hx hb dX0_closeParts_141 (by decide) (fun c_397 => ?_) (fun c_397 => ?_)
                                        · have fc_397 := eq_f c_397
                                          have b_398 : bd 205 205 x_348 := eqX fc_397 (bdT x_348) kb_205 (by decide)
                                          refine lv_aload_n hx hb dX0_closeParts_152 rfl (lv_at hl 5 rfl) ?_
                                          refine g_getk (C := RX0) (T := TX0) (N := 14) hx hb hts (mc_ inX0) hown hK g rfl 2 (by decide) rfl (hts _ (List.mem_cons_of_mem _ t_375)) (fun _ h9 => h9) 9 rfl dX0_closeParts_153 ?_
                                          refine lv_bipush (v := 8) hx hb dX0_closeParts_156 (by decide) ?_
                                          refine lv_iconst (v := 0) hx hb dX0_closeParts_158 (by decide) ?_
                                          refine g_callv (va_runV (As := [.int 8, .int 0]) (rest := []) ⟨hx, hb, hml, hown, hts⟩ (r_X7_emit l dC dI L kd tys fr_393 H.size g.2.2.2.1 q1_ mq1_ kq1_ 8 0) (cwV 2 hts (gV_ t_1203 t_1204 t_1205 t_191 t_1206) rfl rfl rfl (by decide +kernel) ⟨(Nat.le_of_ble_eq_true rfl), (Nat.le_of_ble_eq_true rfl)⟩) (pre3V g hK mq1_ kq1_ (by decide) (q := (RX7, TX7, 19)) rfl) rfl rfl hl.1 rfl (lv_room (Nat.le_of_ble_eq_true rfl)) dX0_closeParts_159 ⟨(Nat.le_of_ble_eq_true rfl), (Nat.le_of_ble_eq_true rfl)⟩) g hK (by decide) (by decide) (fx' := [(0, 10, a0_, .int x_394), (0, 8, a0_, .int y_346), (8, 6, q0_, .int 1201), (8, 8, q0_, .int x_332), (0, 4, a0_, .ref a_329), (0, 12, a0_, .int 0), (0, 3, a0_, .ref g76_0_3_a0_), (0, 0, a0_, .ref q0_), (0, 2, a0_, .ref q1_)]) rfl (fun fr_399 H locs hp hMr_399 g => ?_)
                                          obtain ⟨x_400, h_401, hF_402⟩ := hp
                                          have g := g.more hF_402
                                          refine lv_aload_n hx hb dX0_closeParts_162 rfl (lv_at hl 5 rfl) ?_
                                          refine g_getk (C := RX0) (T := TX0) (N := 14) hx hb hts (mc_ inX0) hown hK g rfl 2 (by decide) rfl (hts _ (List.mem_cons_of_mem _ t_375)) (fun _ h9 => h9) 9 rfl dX0_closeParts_163 ?_
                                          refine lv_aload_n hx hb dX0_closeParts_166 rfl (lv_at hl 5 rfl) ?_
                                          refine g_getr (K := 112) (C := RX0) (T := TX0) (N := 14) hx hb hts (mc_ inX0) hown hK g ma0_ ka0_ (by decide) rfl 5 (by decide) rfl (hts _ (List.mem_cons_of_mem _ t_378)) (fun _ h9 => h9) rfl dX0_closeParts_167 (fun a_403 ma_403 ka_403 g => ?_)
                                          refine lv_aload_n hx hb dX0_closeParts_170 rfl (lv_at hl 5 rfl) ?_
                                          refine g_getk (C := RX0) (T := TX0) (N := 14) hx hb hts (mc_ inX0) hown hK g rfl 8 (by decide) rfl (hts _ (List.mem_cons_of_mem _ t_381)) (fun _ h9 => h9) 3 rfl dX0_closeParts_171 ?_
                                          refine g_iald hx hb hK g ma_403 ka_403 (by decide) rfl (in_bd b_347 (by decide)) dX0_closeParts_174 (fun x_404 bx_404 cx_404 => ?_)
                                          refine g_callv (va_runV (As := [.int x_404]) (rest := []) ⟨hx, hb, hml, hown, hts⟩ (r_X7_leadHere l dC dI L kd tys fr_399 H.size g.2.2.2.1 q1_ mq1_ kq1_ x_404) (cwV 1 hts (gV_ t_1207 t_1208 t_1209 t_191 t_1210) rfl rfl rfl (by decide +kernel) ⟨(Nat.le_of_ble_eq_true rfl), (Nat.le_of_ble_eq_true rfl)⟩) (pre3V g hK mq1_ kq1_ (by decide) (q := (RX7, TX7, 19)) rfl) rfl rfl hl.1 rfl (lv_room (Nat.le_of_ble_eq_true rfl)) dX0_closeParts_175 ⟨(Nat.le_of_ble_eq_true rfl), (Nat.le_of_ble_eq_true rfl)⟩) g hK (by decide) (by decide) (fx' := [(0, 5, a0_, .ref a_403), (7, 6, q1_, .int x_400), (0, 10, a0_, .int x_394), (0, 8, a0_, .int y_346), (8, 6, q0_, .int 1201), (8, 8, q0_, .int x_332), (0, 4, a0_, .ref a_329), (0, 12, a0_, .int 0), (0, 3, a0_, .ref g76_0_3_a0_), (0, 0, a0_, .ref q0_), (0, 2, a0_, .ref q1_)]) rfl (fun fr_405 H locs hp hMr_405 g => ?_)
                                          refine lv_goto (tgt := 191) hx hb dX0_closeParts_178 (by decide) ?_
                                          refine lv_iconst (v := 1) hx hb dX0_closeParts_191 (by decide) ?_
                                          refine lv_iload hx hb dX0_closeParts_192 (lv_at hl 2 rfl) ?_
                                          refine lv_if_eq (tgt := 202) hx hb dX0_closeParts_194 (by decide) (fun c_ => ?_) (fun c_ => absurd (by decide) c_)
                                          refine lv_iload hx hb dX0_closeParts_202 (lv_at hl 0 rfl) ?_
                                          refine lv_aload_n hx hb dX0_closeParts_204 rfl (lv_at hl 5 rfl) ?_
                                          refine g_calli (va_runV (As := []) (rest := [.int r_393, .int 1]) ⟨hx, hb, hml, hown, hts⟩ (r_X0_takeHeight l dC dI L kd tys fr_405 H.size g.2.2.2.1 a0_ ma0_ ka0_) (cwV 0 hts (gV_ t_1199 t_1201 t_16 t_190 t_1202) rfl rfl rfl (by decide +kernel) ⟨(Nat.le_of_ble_eq_true rfl), (Nat.le_of_ble_eq_true rfl)⟩) (pre3V g hK ma0_ ka0_ (by decide) (q := (RX0, TX0, 14)) rfl) rfl rfl hl.1 rfl (lv_room (Nat.le_of_ble_eq_true rfl)) dX0_closeParts_205 ⟨(Nat.le_of_ble_eq_true rfl), (Nat.le_of_ble_eq_true rfl)⟩) g hK (by decide) (by decide) (fx' := [(0, 5, a0_, .ref a_403), (7, 6, q1_, .int x_400), (0, 8, a0_, .int y_346), (8, 6, q0_, .int 1201), (8, 8, q0_, .int x_332), (0, 4, a0_, .ref a_329), (0, 12, a0_, .int 0), (0, 3, a0_, .ref g76_0_3_a0_), (0, 0, a0_, .ref q0_), (0, 2, a0_, .ref q1_)]) rfl (fun r_406 fr_406 H locs hp hMr_406 g => ?_)
                                          obtain ⟨x_407, h_408, hF_409⟩ := hp
                                          have g := g.more hF_409
                                          refine va_mmax hx hb (hml.trans hl.1.symm) hown (hts _ (List.mem_cons_of_mem _ t_1194)) (hts _ (List.mem_cons_of_mem _ t_1041)) (hts _ (List.mem_cons_of_mem _ t_204)) (hts _ (List.mem_cons_of_mem _ t_1042)) (Nat.le_of_ble_eq_true rfl) (Nat.le_of_ble_eq_true rfl) (Nat.le_of_ble_eq_true rfl) (Nat.le_of_ble_eq_true rfl) dX0_closeParts_208 ?_
                                          refine lv_topi (fun y_410 ey_410 => ?_)
                                          have ty_410 : y_410.toInt = max r_393.toInt r_406.toInt := by rw [ey_410]; exact mmax_ok _ _
                                          have b_411 : bd (-2147483648) 2147483647 y_410 := max_rg ty_410 (bdT r_393) (bdT r_406) (by decide)
                                          refine lv_iadd hx hb dX0_closeParts_211 ?_
                                          refine lv_topi (fun y_412 ey_412 => ?_)
                                          refine lv_istore (lv' := [(6, .int y_412), (2, .int 1), (5, .int 0), (4, .int x_348), (3, .int v4_3), (0, .ref a0_), (1, .int x1_)]) hx hb dX0_closeParts_212 hl (by decide) rfl (fun ls hl => ?_)
                                          refine lv_aload_n hx hb dX0_closeParts_214 rfl (lv_at hl 5 rfl) ?_
                                          refine lv_iload hx hb dX0_closeParts_215 (lv_at hl 0 rfl) ?_
                                          refine g_callv (va_runV (As := [.int y_412]) (rest := []) ⟨hx, hb, hml, hown, hts⟩ (r_X0_addWhole l dC dI L kd tys fr_406 H.size g.2.2.2.1 a0_ ma0_ ka0_ y_412) (cwV 1 hts (gV_ t_1211 t_1213 t_17 t_190 t_1214) rfl rfl rfl (by decide +kernel) ⟨(Nat.le_of_ble_eq_true rfl), (Nat.le_of_ble_eq_true rfl)⟩) (pre3V g hK ma0_ ka0_ (by decide) (q := (RX0, TX0, 14)) rfl) rfl rfl hl.1 rfl (lv_room (Nat.le_of_ble_eq_true rfl)) dX0_closeParts_217 ⟨(Nat.le_of_ble_eq_true rfl), (Nat.le_of_ble_eq_true rfl)⟩) g hK (by decide) (by decide) (fx' := [(0, 5, a0_, .ref a_403), (7, 6, q1_, .int x_400), (0, 8, a0_, .int y_346), (8, 6, q0_, .int 1201), (8, 8, q0_, .int x_332), (0, 4, a0_, .ref a_329), (0, 3, a0_, .ref g76_0_3_a0_), (0, 0, a0_, .ref q0_), (0, 2, a0_, .ref q1_)]) rfl (fun fr_413 H locs hp hMr_413 g => ?_)
                                          obtain ⟨x_414, h_415, hF_416⟩ := hp
                                          have g := g.more hF_416
                                          refine lv_iload hx hb dX0_closeParts_220 (lv_at hl 0 rfl) ?_
                                          refine lv_bipush (v := 12) hx hb dX0_closeParts_222 (by decide) ?_
                                          refine lv_icmp_le (tgt := 245) hx hb dX0_closeParts_224 (by decide) (fun c_417 => ?_) (fun c_417 => ?_)
                                          · have fc_417 := le_f c_417
                                            have b_418 : bd (-2147483648) 12 y_412 := leL fc_417 (bdT y_412) kb_12 (by decide)
                                            obtain ⟨y_419, ey_419⟩ : ∃ z : Int32, z = v4_3 + 1 := ⟨_, rfl⟩
                                            refine lv_iinc (v := y_419) (lv' := [(3, .int y_419), (6, .int y_412), (2, .int 1), (5, .int 0), (4, .int x_348), (0, .ref a0_), (1, .int x1_)]) hx hb dX0_closeParts_245 hl (k := 4) rfl (by rw [ey_419]; rfl) (by decide) rfl (fun ls hl => ?_)
                                            have ty_419 := add_bd ey_419 b_340 kb_1 (by decide)
                                            have b_420 : bd 2 300 y_419 := add_rg ty_419 b_340 kb_1 (by decide)
                                            refine lv_goto (tgt := 4) hx hb dX0_closeParts_248 (by decide) ?_
                                            have hl9 := lv_sub hl [0, 1, 2, 3, 4, 5, 6] (by rfl : lv_pick [(3, .int y_419), (6, .int y_412), (2, .int 1), (5, .int 0), (4, .int x_348), (0, .ref a0_), (1, .int x1_)] [0, 1, 2, 3, 4, 5, 6] = [(3, .int y_419), (6, .int y_412), (2, .int 1), (5, .int 0), (4, .int x_348), (0, .ref a0_), (1, .int x1_)])
                                            have g9 := g.sub (fx' := [(8, 6, q0_, .int 1201), (8, 8, q0_, .int x_332), (0, 4, a0_, .ref a_329), (0, 12, a0_, .int 0), (0, 10, a0_, .int x_414), (7, 6, q1_, .int x_400), (0, 8, a0_, .int y_346), (0, 3, a0_, .ref g76_0_3_a0_), (0, 0, a0_, .ref q0_), (0, 2, a0_, .ref q1_)]) [5, 6, 7, 0, 1, 3, 4, 8, 9, 10] rfl
                                            exact ih4  y_419 y_412 1 0 x_348 x_414 x_400 y_346 (bd_sub b_420 (by decide)) (bd_sub kb_1 (by decide)) (bd_sub kb_0 (by decide)) h_415 h_401 (bd_sub b_347 (by decide)) (by have h9_0 := b_347; unfold bd at h9_0; have h9_1 := b_398; unfold bd at h9_1; have h9_2 := b_418; unfold bd at h9_2; have h9_3 := b_420; unfold bd at h9_3; have h9_4 := bdT v4_4; unfold bd at h9_4; have h9_5 := bdT v4_6; unfold bd at h9_5; have h9_6 := bv4_2; unfold bd at h9_6; have h9_7 := bv4_3; unfold bd at h9_7; have h9_8 := bv4_5; unfold bd at h9_8; have h9_9 := bw4_0_10_a0_; unfold bd at h9_9; have h9_10 := bw4_0_8_a0_; unfold bd at h9_10; have h9_11 := bw4_7_6_q1_; unfold bd at h9_11; have h9_12 := h_401; unfold bd at h9_12; have h9_13 := h_415; unfold bd at h9_13; have h9_14 := kb_0; unfold bd at h9_14; have h9_15 := kb_1; unfold bd at h9_15; have h9_16 := kb_12; unfold bd at h9_16; have h9_17 := kb_205; unfold bd at h9_17; have h9_18 := kb_300; unfold bd at h9_18; have h9_19 := kb_6; unfold bd at h9_19; have h9_20 := kb_7; unfold bd at h9_20; omega) _ _ _ _ g9  hl9
                                          · have fc_417 := nle_f c_417
                                            have b_421 : bd 13 2147483647 y_412 := ltR fc_417 kb_12 (bdT y_412) (by decide)
                                            refine lv_aload_n hx hb dX0_closeParts_227 rfl (lv_at hl 5 rfl) ?_
                                            refine g_getk (C := RX0) (T := TX0) (N := 14) hx hb hts (mc_ inX0) hown hK g rfl 0 (by decide) rfl (hts _ (List.mem_cons_of_mem _ t_373)) (fun _ h9 => h9) 9 rfl dX0_closeParts_228 ?_
                                            refine lv_bipush (v := 7) hx hb dX0_closeParts_231 (by decide) ?_
                                            refine lv_aload_n hx hb dX0_closeParts_233 rfl (lv_at hl 5 rfl) ?_
                                            refine g_getk (C := RX0) (T := TX0) (N := 14) hx hb hts (mc_ inX0) hown hK g rfl 4 (by decide) rfl (hts _ (List.mem_cons_of_mem _ t_377)) (fun _ h9 => h9) 7 rfl dX0_closeParts_234 ?_
                                            refine lv_aload_n hx hb dX0_closeParts_237 rfl (lv_at hl 5 rfl) ?_
                                            refine g_getk (C := RX0) (T := TX0) (N := 14) hx hb hts (mc_ inX0) hown hK g rfl 8 (by decide) rfl (hts _ (List.mem_cons_of_mem _ t_381)) (fun _ h9 => h9) 4 rfl dX0_closeParts_238 ?_
                                            refine g_iald hx hb hK g ma_329 ka_329 (by decide) rfl (in_bd b_347 (by decide)) dX0_closeParts_241 (fun x_422 bx_422 cx_422 => ?_)
                                            refine g_callv (va_runV (As := [.int 7, .int x_422]) (rest := []) ⟨hx, hb, hml, hown, hts⟩ (r_X8_fail_2 l dC dI L kd tys fr_413 H.size g.2.2.2.1 q0_ mq0_ kq0_ 7 (bd_sub kb_7 (by decide)) x_422 x_332 h_333 (g.fcts [6] rfl)) (cwV 2 hts (gV_ t_1215 t_1107 t_1108 t_184 t_1109) rfl rfl rfl (by decide +kernel) ⟨(Nat.le_of_ble_eq_true rfl), (Nat.le_of_ble_eq_true rfl)⟩) (pre3V g hK mq0_ kq0_ (by decide) (q := (RX8, TX8, 10)) rfl) rfl rfl hl.1 rfl (lv_room (Nat.le_of_ble_eq_true rfl)) dX0_closeParts_242 ⟨(Nat.le_of_ble_eq_true rfl), (Nat.le_of_ble_eq_true rfl)⟩) g hK (by decide) (by decide) (fx' := [(0, 12, a0_, .int 0), (0, 10, a0_, .int x_414), (0, 5, a0_, .ref a_403), (7, 6, q1_, .int x_400), (0, 8, a0_, .int y_346), (8, 8, q0_, .int x_332), (0, 4, a0_, .ref a_329), (0, 3, a0_, .ref g76_0_3_a0_), (0, 0, a0_, .ref q0_), (0, 2, a0_, .ref q1_)]) rfl (fun fr_423 H locs hp hMr_423 g => ?_)
                                            have hF_424 := hp
                                            have g := g.more hF_424
                                            obtain ⟨y_425, ey_425⟩ : ∃ z : Int32, z = v4_3 + 1 := ⟨_, rfl⟩
                                            refine lv_iinc (v := y_425) (lv' := [(3, .int y_425), (6, .int y_412), (2, .int 1), (5, .int 0), (4, .int x_348), (0, .ref a0_), (1, .int x1_)]) hx hb dX0_closeParts_245 hl (k := 4) rfl (by rw [ey_425]; rfl) (by decide) rfl (fun ls hl => ?_)
                                            have ty_425 := add_bd ey_425 b_340 kb_1 (by decide)
                                            have b_426 : bd 2 300 y_425 := add_rg ty_425 b_340 kb_1 (by decide)
                                            refine lv_goto (tgt := 4) hx hb dX0_closeParts_248 (by decide) ?_
                                            have hl9 := lv_sub hl [0, 1, 2, 3, 4, 5, 6] (by rfl : lv_pick [(3, .int y_425), (6, .int y_412), (2, .int 1), (5, .int 0), (4, .int x_348), (0, .ref a0_), (1, .int x1_)] [0, 1, 2, 3, 4, 5, 6] = [(3, .int y_425), (6, .int y_412), (2, .int 1), (5, .int 0), (4, .int x_348), (0, .ref a0_), (1, .int x1_)])
                                            have g9 := g.sub (fx' := [(8, 6, q0_, .int 1201), (8, 8, q0_, .int x_332), (0, 4, a0_, .ref a_329), (0, 12, a0_, .int 0), (0, 10, a0_, .int x_414), (7, 6, q1_, .int x_400), (0, 8, a0_, .int y_346), (0, 3, a0_, .ref g76_0_3_a0_), (0, 0, a0_, .ref q0_), (0, 2, a0_, .ref q1_)]) [0, 6, 7, 1, 2, 4, 5, 8, 9, 10] rfl
                                            exact ih4  y_425 y_412 1 0 x_348 x_414 x_400 y_346 (bd_sub b_426 (by decide)) (bd_sub kb_1 (by decide)) (bd_sub kb_0 (by decide)) h_415 h_401 (bd_sub b_347 (by decide)) (by have h9_0 := b_347; unfold bd at h9_0; have h9_1 := b_398; unfold bd at h9_1; have h9_2 := b_421; unfold bd at h9_2; have h9_3 := b_426; unfold bd at h9_3; have h9_4 := bdT v4_4; unfold bd at h9_4; have h9_5 := bdT v4_6; unfold bd at h9_5; have h9_6 := bv4_2; unfold bd at h9_6; have h9_7 := bv4_3; unfold bd at h9_7; have h9_8 := bv4_5; unfold bd at h9_8; have h9_9 := bw4_0_10_a0_; unfold bd at h9_9; have h9_10 := bw4_0_8_a0_; unfold bd at h9_10; have h9_11 := bw4_7_6_q1_; unfold bd at h9_11; have h9_12 := h_401; unfold bd at h9_12; have h9_13 := h_415; unfold bd at h9_13; have h9_14 := kb_0; unfold bd at h9_14; have h9_15 := kb_1; unfold bd at h9_15; have h9_16 := kb_12; unfold bd at h9_16; have h9_17 := kb_205; unfold bd at h9_17; have h9_18 := kb_300; unfold bd at h9_18; have h9_19 := kb_6; unfold bd at h9_19; have h9_20 := kb_7; unfold bd at h9_20; omega) _ _ _ _ g9  hl9
                                        · have fc_397 := neq_f c_397
                                          refine lv_iload hx hb dX0_closeParts_144 (lv_at hl 3 rfl) ?_
                                          refine lv_sipush (v := 206) hx hb dX0_closeParts_146 (by decide) ?_
                                          have kb_206 : bd 206 206 (206 : Int32) := ⟨by decide, by decide⟩
                                          refine lv_icmp_ne (tgt := 181) hx hb dX0_closeParts_149 (by decide) (fun c_427 => ?_) (fun c_427 => ?_)
                                          · have fc_427 := neq_f c_427
                                            refine lv_aload_n hx hb dX0_closeParts_181 rfl (lv_at hl 5 rfl) ?_
                                            refine g_getk (C := RX0) (T := TX0) (N := 14) hx hb hts (mc_ inX0) hown hK g rfl 2 (by decide) rfl (hts _ (List.mem_cons_of_mem _ t_375)) (fun _ h9 => h9) 9 rfl dX0_closeParts_182 ?_
                                            refine lv_iload hx hb dX0_closeParts_185 (lv_at hl 3 rfl) ?_
                                            refine lv_iconst (v := 0) hx hb dX0_closeParts_187 (by decide) ?_
                                            refine g_callv (va_runV (As := [.int x_348, .int 0]) (rest := []) ⟨hx, hb, hml, hown, hts⟩ (r_X7_emit l dC dI L kd tys fr_393 H.size g.2.2.2.1 q1_ mq1_ kq1_ x_348 0) (cwV 2 hts (gV_ t_1203 t_1204 t_1205 t_191 t_1206) rfl rfl rfl (by decide +kernel) ⟨(Nat.le_of_ble_eq_true rfl), (Nat.le_of_ble_eq_true rfl)⟩) (pre3V g hK mq1_ kq1_ (by decide) (q := (RX7, TX7, 19)) rfl) rfl rfl hl.1 rfl (lv_room (Nat.le_of_ble_eq_true rfl)) dX0_closeParts_188 ⟨(Nat.le_of_ble_eq_true rfl), (Nat.le_of_ble_eq_true rfl)⟩) g hK (by decide) (by decide) (fx' := [(0, 10, a0_, .int x_394), (0, 8, a0_, .int y_346), (8, 6, q0_, .int 1201), (8, 8, q0_, .int x_332), (0, 4, a0_, .ref a_329), (0, 12, a0_, .int 0), (0, 3, a0_, .ref g76_0_3_a0_), (0, 0, a0_, .ref q0_), (0, 2, a0_, .ref q1_)]) rfl (fun fr_428 H locs hp hMr_428 g => ?_)
                                            obtain ⟨x_429, h_430, hF_431⟩ := hp
                                            have g := g.more hF_431
                                            refine lv_iconst (v := 1) hx hb dX0_closeParts_191 (by decide) ?_
                                            refine lv_iload hx hb dX0_closeParts_192 (lv_at hl 2 rfl) ?_
                                            refine lv_if_eq (tgt := 202) hx hb dX0_closeParts_194 (by decide) (fun c_ => ?_) (fun c_ => absurd (by decide) c_)
                                            refine lv_iload hx hb dX0_closeParts_202 (lv_at hl 0 rfl) ?_
                                            refine lv_aload_n hx hb dX0_closeParts_204 rfl (lv_at hl 5 rfl) ?_
                                            refine g_calli (va_runV (As := []) (rest := [.int r_393, .int 1]) ⟨hx, hb, hml, hown, hts⟩ (r_X0_takeHeight l dC dI L kd tys fr_428 H.size g.2.2.2.1 a0_ ma0_ ka0_) (cwV 0 hts (gV_ t_1199 t_1201 t_16 t_190 t_1202) rfl rfl rfl (by decide +kernel) ⟨(Nat.le_of_ble_eq_true rfl), (Nat.le_of_ble_eq_true rfl)⟩) (pre3V g hK ma0_ ka0_ (by decide) (q := (RX0, TX0, 14)) rfl) rfl rfl hl.1 rfl (lv_room (Nat.le_of_ble_eq_true rfl)) dX0_closeParts_205 ⟨(Nat.le_of_ble_eq_true rfl), (Nat.le_of_ble_eq_true rfl)⟩) g hK (by decide) (by decide) (fx' := [(7, 6, q1_, .int x_429), (0, 8, a0_, .int y_346), (8, 6, q0_, .int 1201), (8, 8, q0_, .int x_332), (0, 4, a0_, .ref a_329), (0, 12, a0_, .int 0), (0, 3, a0_, .ref g76_0_3_a0_), (0, 0, a0_, .ref q0_), (0, 2, a0_, .ref q1_)]) rfl (fun r_432 fr_432 H locs hp hMr_432 g => ?_)
                                            obtain ⟨x_433, h_434, hF_435⟩ := hp
                                            have g := g.more hF_435
                                            refine va_mmax hx hb (hml.trans hl.1.symm) hown (hts _ (List.mem_cons_of_mem _ t_1194)) (hts _ (List.mem_cons_of_mem _ t_1041)) (hts _ (List.mem_cons_of_mem _ t_204)) (hts _ (List.mem_cons_of_mem _ t_1042)) (Nat.le_of_ble_eq_true rfl) (Nat.le_of_ble_eq_true rfl) (Nat.le_of_ble_eq_true rfl) (Nat.le_of_ble_eq_true rfl) dX0_closeParts_208 ?_
                                            refine lv_topi (fun y_436 ey_436 => ?_)
                                            have ty_436 : y_436.toInt = max r_393.toInt r_432.toInt := by rw [ey_436]; exact mmax_ok _ _
                                            have b_437 : bd (-2147483648) 2147483647 y_436 := max_rg ty_436 (bdT r_393) (bdT r_432) (by decide)
                                            refine lv_iadd hx hb dX0_closeParts_211 ?_
                                            refine lv_topi (fun y_438 ey_438 => ?_)
                                            refine lv_istore (lv' := [(6, .int y_438), (2, .int 1), (5, .int 0), (4, .int x_348), (3, .int v4_3), (0, .ref a0_), (1, .int x1_)]) hx hb dX0_closeParts_212 hl (by decide) rfl (fun ls hl => ?_)
                                            refine lv_aload_n hx hb dX0_closeParts_214 rfl (lv_at hl 5 rfl) ?_
                                            refine lv_iload hx hb dX0_closeParts_215 (lv_at hl 0 rfl) ?_
                                            refine g_callv (va_runV (As := [.int y_438]) (rest := []) ⟨hx, hb, hml, hown, hts⟩ (r_X0_addWhole l dC dI L kd tys fr_432 H.size g.2.2.2.1 a0_ ma0_ ka0_ y_438) (cwV 1 hts (gV_ t_1211 t_1213 t_17 t_190 t_1214) rfl rfl rfl (by decide +kernel) ⟨(Nat.le_of_ble_eq_true rfl), (Nat.le_of_ble_eq_true rfl)⟩) (pre3V g hK ma0_ ka0_ (by decide) (q := (RX0, TX0, 14)) rfl) rfl rfl hl.1 rfl (lv_room (Nat.le_of_ble_eq_true rfl)) dX0_closeParts_217 ⟨(Nat.le_of_ble_eq_true rfl), (Nat.le_of_ble_eq_true rfl)⟩) g hK (by decide) (by decide) (fx' := [(7, 6, q1_, .int x_429), (0, 8, a0_, .int y_346), (8, 6, q0_, .int 1201), (8, 8, q0_, .int x_332), (0, 4, a0_, .ref a_329), (0, 3, a0_, .ref g76_0_3_a0_), (0, 0, a0_, .ref q0_), (0, 2, a0_, .ref q1_)]) rfl (fun fr_439 H locs hp hMr_439 g => ?_)
                                            obtain ⟨x_440, h_441, hF_442⟩ := hp
                                            have g := g.more hF_442
                                            refine lv_iload hx hb dX0_closeParts_220 (lv_at hl 0 rfl) ?_
                                            refine lv_bipush (v := 12) hx hb dX0_closeParts_222 (by decide) ?_
                                            refine lv_icmp_le (tgt := 245) hx hb dX0_closeParts_224 (by decide) (fun c_443 => ?_) (fun c_443 => ?_)
                                            · have fc_443 := le_f c_443
                                              have b_444 : bd (-2147483648) 12 y_438 := leL fc_443 (bdT y_438) kb_12 (by decide)
                                              obtain ⟨y_445, ey_445⟩ : ∃ z : Int32, z = v4_3 + 1 := ⟨_, rfl⟩
                                              refine lv_iinc (v := y_445) (lv' := [(3, .int y_445), (6, .int y_438), (2, .int 1), (5, .int 0), (4, .int x_348), (0, .ref a0_), (1, .int x1_)]) hx hb dX0_closeParts_245 hl (k := 4) rfl (by rw [ey_445]; rfl) (by decide) rfl (fun ls hl => ?_)
                                              have ty_445 := add_bd ey_445 b_340 kb_1 (by decide)
                                              have b_446 : bd 2 300 y_445 := add_rg ty_445 b_340 kb_1 (by decide)
                                              refine lv_goto (tgt := 4) hx hb dX0_closeParts_248 (by decide) ?_
                                              have hl9 := lv_sub hl [0, 1, 2, 3, 4, 5, 6] (by rfl : lv_pick [(3, .int y_445), (6, .int y_438), (2, .int 1), (5, .int 0), (4, .int x_348), (0, .ref a0_), (1, .int x1_)] [0, 1, 2, 3, 4, 5, 6] = [(3, .int y_445), (6, .int y_438), (2, .int 1), (5, .int 0), (4, .int x_348), (0, .ref a0_), (1, .int x1_)])
                                              have g9 := g.sub (fx' := [(8, 6, q0_, .int 1201), (8, 8, q0_, .int x_332), (0, 4, a0_, .ref a_329), (0, 12, a0_, .int 0), (0, 10, a0_, .int x_440), (7, 6, q1_, .int x_429), (0, 8, a0_, .int y_346), (0, 3, a0_, .ref g76_0_3_a0_), (0, 0, a0_, .ref q0_), (0, 2, a0_, .ref q1_)]) [4, 5, 6, 0, 1, 2, 3, 7, 8, 9] rfl
                                              exact ih4  y_445 y_438 1 0 x_348 x_440 x_429 y_346 (bd_sub b_446 (by decide)) (bd_sub kb_1 (by decide)) (bd_sub kb_0 (by decide)) h_441 h_430 (bd_sub b_347 (by decide)) (by have h9_0 := b_347; unfold bd at h9_0; have h9_1 := b_444; unfold bd at h9_1; have h9_2 := b_446; unfold bd at h9_2; have h9_3 := bdT v4_4; unfold bd at h9_3; have h9_4 := bdT v4_6; unfold bd at h9_4; have h9_5 := bdT x_348; unfold bd at h9_5; have h9_6 := bv4_2; unfold bd at h9_6; have h9_7 := bv4_3; unfold bd at h9_7; have h9_8 := bv4_5; unfold bd at h9_8; have h9_9 := bw4_0_10_a0_; unfold bd at h9_9; have h9_10 := bw4_0_8_a0_; unfold bd at h9_10; have h9_11 := bw4_7_6_q1_; unfold bd at h9_11; have h9_12 := h_430; unfold bd at h9_12; have h9_13 := h_441; unfold bd at h9_13; have h9_14 := kb_0; unfold bd at h9_14; have h9_15 := kb_1; unfold bd at h9_15; have h9_16 := kb_12; unfold bd at h9_16; have h9_17 := kb_205; unfold bd at h9_17; have h9_18 := kb_206; unfold bd at h9_18; have h9_19 := kb_300; unfold bd at h9_19; have h9_20 := kb_6; unfold bd at h9_20; have h9_21 := kb_7; unfold bd at h9_21; omega) _ _ _ _ g9  hl9
                                            · have fc_443 := nle_f c_443
                                              have b_447 : bd 13 2147483647 y_438 := ltR fc_443 kb_12 (bdT y_438) (by decide)
                                              refine lv_aload_n hx hb dX0_closeParts_227 rfl (lv_at hl 5 rfl) ?_
                                              refine g_getk (C := RX0) (T := TX0) (N := 14) hx hb hts (mc_ inX0) hown hK g rfl 0 (by decide) rfl (hts _ (List.mem_cons_of_mem _ t_373)) (fun _ h9 => h9) 8 rfl dX0_closeParts_228 ?_
                                              refine lv_bipush (v := 7) hx hb dX0_closeParts_231 (by decide) ?_
                                              refine lv_aload_n hx hb dX0_closeParts_233 rfl (lv_at hl 5 rfl) ?_
                                              refine g_getk (C := RX0) (T := TX0) (N := 14) hx hb hts (mc_ inX0) hown hK g rfl 4 (by decide) rfl (hts _ (List.mem_cons_of_mem _ t_377)) (fun _ h9 => h9) 6 rfl dX0_closeParts_234 ?_
                                              refine lv_aload_n hx hb dX0_closeParts_237 rfl (lv_at hl 5 rfl) ?_
                                              refine g_getk (C := RX0) (T := TX0) (N := 14) hx hb hts (mc_ inX0) hown hK g rfl 8 (by decide) rfl (hts _ (List.mem_cons_of_mem _ t_381)) (fun _ h9 => h9) 3 rfl dX0_closeParts_238 ?_
                                              refine g_iald hx hb hK g ma_329 ka_329 (by decide) rfl (in_bd b_347 (by decide)) dX0_closeParts_241 (fun x_448 bx_448 cx_448 => ?_)
                                              refine g_callv (va_runV (As := [.int 7, .int x_448]) (rest := []) ⟨hx, hb, hml, hown, hts⟩ (r_X8_fail_2 l dC dI L kd tys fr_439 H.size g.2.2.2.1 q0_ mq0_ kq0_ 7 (bd_sub kb_7 (by decide)) x_448 x_332 h_333 (g.fcts [5] rfl)) (cwV 2 hts (gV_ t_1215 t_1107 t_1108 t_184 t_1109) rfl rfl rfl (by decide +kernel) ⟨(Nat.le_of_ble_eq_true rfl), (Nat.le_of_ble_eq_true rfl)⟩) (pre3V g hK mq0_ kq0_ (by decide) (q := (RX8, TX8, 10)) rfl) rfl rfl hl.1 rfl (lv_room (Nat.le_of_ble_eq_true rfl)) dX0_closeParts_242 ⟨(Nat.le_of_ble_eq_true rfl), (Nat.le_of_ble_eq_true rfl)⟩) g hK (by decide) (by decide) (fx' := [(0, 12, a0_, .int 0), (0, 10, a0_, .int x_440), (7, 6, q1_, .int x_429), (0, 8, a0_, .int y_346), (8, 8, q0_, .int x_332), (0, 4, a0_, .ref a_329), (0, 3, a0_, .ref g76_0_3_a0_), (0, 0, a0_, .ref q0_), (0, 2, a0_, .ref q1_)]) rfl (fun fr_449 H locs hp hMr_449 g => ?_)
                                              have hF_450 := hp
                                              have g := g.more hF_450
                                              obtain ⟨y_451, ey_451⟩ : ∃ z : Int32, z = v4_3 + 1 := ⟨_, rfl⟩
                                              refine lv_iinc (v := y_451) (lv' := [(3, .int y_451), (6, .int y_438), (2, .int 1), (5, .int 0), (4, .int x_348), (0, .ref a0_), (1, .int x1_)]) hx hb dX0_closeParts_245 hl (k := 4) rfl (by rw [ey_451]; rfl) (by decide) rfl (fun ls hl => ?_)
                                              have ty_451 := add_bd ey_451 b_340 kb_1 (by decide)
                                              have b_452 : bd 2 300 y_451 := add_rg ty_451 b_340 kb_1 (by decide)
                                              refine lv_goto (tgt := 4) hx hb dX0_closeParts_248 (by decide) ?_
                                              have hl9 := lv_sub hl [0, 1, 2, 3, 4, 5, 6] (by rfl : lv_pick [(3, .int y_451), (6, .int y_438), (2, .int 1), (5, .int 0), (4, .int x_348), (0, .ref a0_), (1, .int x1_)] [0, 1, 2, 3, 4, 5, 6] = [(3, .int y_451), (6, .int y_438), (2, .int 1), (5, .int 0), (4, .int x_348), (0, .ref a0_), (1, .int x1_)])
                                              have g9 := g.sub (fx' := [(8, 6, q0_, .int 1201), (8, 8, q0_, .int x_332), (0, 4, a0_, .ref a_329), (0, 12, a0_, .int 0), (0, 10, a0_, .int x_440), (7, 6, q1_, .int x_429), (0, 8, a0_, .int y_346), (0, 3, a0_, .ref g76_0_3_a0_), (0, 0, a0_, .ref q0_), (0, 2, a0_, .ref q1_)]) [0, 5, 6, 1, 2, 3, 4, 7, 8, 9] rfl
                                              exact ih4  y_451 y_438 1 0 x_348 x_440 x_429 y_346 (bd_sub b_452 (by decide)) (bd_sub kb_1 (by decide)) (bd_sub kb_0 (by decide)) h_441 h_430 (bd_sub b_347 (by decide)) (by have h9_0 := b_347; unfold bd at h9_0; have h9_1 := b_447; unfold bd at h9_1; have h9_2 := b_452; unfold bd at h9_2; have h9_3 := bdT v4_4; unfold bd at h9_3; have h9_4 := bdT v4_6; unfold bd at h9_4; have h9_5 := bdT x_348; unfold bd at h9_5; have h9_6 := bv4_2; unfold bd at h9_6; have h9_7 := bv4_3; unfold bd at h9_7; have h9_8 := bv4_5; unfold bd at h9_8; have h9_9 := bw4_0_10_a0_; unfold bd at h9_9; have h9_10 := bw4_0_8_a0_; unfold bd at h9_10; have h9_11 := bw4_7_6_q1_; unfold bd at h9_11; have h9_12 := h_430; unfold bd at h9_12; have h9_13 := h_441; unfold bd at h9_13; have h9_14 := kb_0; unfold bd at h9_14; have h9_15 := kb_1; unfold bd at h9_15; have h9_16 := kb_12; unfold bd at h9_16; have h9_17 := kb_205; unfold bd at h9_17; have h9_18 := kb_206; unfold bd at h9_18; have h9_19 := kb_300; unfold bd at h9_19; have h9_20 := kb_6; unfold bd at h9_20; have h9_21 := kb_7; unfold bd at h9_21; omega) _ _ _ _ g9  hl9
                                          · have fc_427 := eq_f c_427
                                            have b_453 : bd 206 206 x_348 := eqX fc_427 (bdT x_348) kb_206 (by decide)
                                            refine lv_aload_n hx hb dX0_closeParts_152 rfl (lv_at hl 5 rfl) ?_
                                            refine g_getk (C := RX0) (T := TX0) (N := 14) hx hb hts (mc_ inX0) hown hK g rfl 2 (by decide) rfl (hts _ (List.mem_cons_of_mem _ t_375)) (fun _ h9 => h9) 9 rfl dX0_closeParts_153 ?_
                                            refine lv_bipush (v := 8) hx hb dX0_closeParts_156 (by decide) ?_
                                            refine lv_iconst (v := 0) hx hb dX0_closeParts_158 (by decide) ?_
                                            refine g_callv (va_runV (As := [.int 8, .int 0]) (rest := []) ⟨hx, hb, hml, hown, hts⟩ (r_X7_emit l dC dI L kd tys fr_393 H.size g.2.2.2.1 q1_ mq1_ kq1_ 8 0) (cwV 2 hts (gV_ t_1203 t_1204 t_1205 t_191 t_1206) rfl rfl rfl (by decide +kernel) ⟨(Nat.le_of_ble_eq_true rfl), (Nat.le_of_ble_eq_true rfl)⟩) (pre3V g hK mq1_ kq1_ (by decide) (q := (RX7, TX7, 19)) rfl) rfl rfl hl.1 rfl (lv_room (Nat.le_of_ble_eq_true rfl)) dX0_closeParts_159 ⟨(Nat.le_of_ble_eq_true rfl), (Nat.le_of_ble_eq_true rfl)⟩) g hK (by decide) (by decide) (fx' := [(0, 10, a0_, .int x_394), (0, 8, a0_, .int y_346), (8, 6, q0_, .int 1201), (8, 8, q0_, .int x_332), (0, 4, a0_, .ref a_329), (0, 12, a0_, .int 0), (0, 3, a0_, .ref g76_0_3_a0_), (0, 0, a0_, .ref q0_), (0, 2, a0_, .ref q1_)]) rfl (fun fr_454 H locs hp hMr_454 g => ?_)
                                            obtain ⟨x_455, h_456, hF_457⟩ := hp
                                            have g := g.more hF_457
                                            refine lv_aload_n hx hb dX0_closeParts_162 rfl (lv_at hl 5 rfl) ?_
                                            refine g_getk (C := RX0) (T := TX0) (N := 14) hx hb hts (mc_ inX0) hown hK g rfl 2 (by decide) rfl (hts _ (List.mem_cons_of_mem _ t_375)) (fun _ h9 => h9) 9 rfl dX0_closeParts_163 ?_
                                            refine lv_aload_n hx hb dX0_closeParts_166 rfl (lv_at hl 5 rfl) ?_
                                            refine g_getr (K := 112) (C := RX0) (T := TX0) (N := 14) hx hb hts (mc_ inX0) hown hK g ma0_ ka0_ (by decide) rfl 5 (by decide) rfl (hts _ (List.mem_cons_of_mem _ t_378)) (fun _ h9 => h9) rfl dX0_closeParts_167 (fun a_458 ma_458 ka_458 g => ?_)
                                            refine lv_aload_n hx hb dX0_closeParts_170 rfl (lv_at hl 5 rfl) ?_
                                            refine g_getk (C := RX0) (T := TX0) (N := 14) hx hb hts (mc_ inX0) hown hK g rfl 8 (by decide) rfl (hts _ (List.mem_cons_of_mem _ t_381)) (fun _ h9 => h9) 3 rfl dX0_closeParts_171 ?_
                                            refine g_iald hx hb hK g ma_458 ka_458 (by decide) rfl (in_bd b_347 (by decide)) dX0_closeParts_174 (fun x_459 bx_459 cx_459 => ?_)
                                            refine g_callv (va_runV (As := [.int x_459]) (rest := []) ⟨hx, hb, hml, hown, hts⟩ (r_X7_leadHere l dC dI L kd tys fr_454 H.size g.2.2.2.1 q1_ mq1_ kq1_ x_459) (cwV 1 hts (gV_ t_1207 t_1208 t_1209 t_191 t_1210) rfl rfl rfl (by decide +kernel) ⟨(Nat.le_of_ble_eq_true rfl), (Nat.le_of_ble_eq_true rfl)⟩) (pre3V g hK mq1_ kq1_ (by decide) (q := (RX7, TX7, 19)) rfl) rfl rfl hl.1 rfl (lv_room (Nat.le_of_ble_eq_true rfl)) dX0_closeParts_175 ⟨(Nat.le_of_ble_eq_true rfl), (Nat.le_of_ble_eq_true rfl)⟩) g hK (by decide) (by decide) (fx' := [(0, 5, a0_, .ref a_458), (7, 6, q1_, .int x_455), (0, 10, a0_, .int x_394), (0, 8, a0_, .int y_346), (8, 6, q0_, .int 1201), (8, 8, q0_, .int x_332), (0, 4, a0_, .ref a_329), (0, 12, a0_, .int 0), (0, 3, a0_, .ref g76_0_3_a0_), (0, 0, a0_, .ref q0_), (0, 2, a0_, .ref q1_)]) rfl (fun fr_460 H locs hp hMr_460 g => ?_)
                                            refine lv_goto (tgt := 191) hx hb dX0_closeParts_178 (by decide) ?_
                                            refine lv_iconst (v := 1) hx hb dX0_closeParts_191 (by decide) ?_
                                            refine lv_iload hx hb dX0_closeParts_192 (lv_at hl 2 rfl) ?_
                                            refine lv_if_eq (tgt := 202) hx hb dX0_closeParts_194 (by decide) (fun c_ => ?_) (fun c_ => absurd (by decide) c_)
                                            refine lv_iload hx hb dX0_closeParts_202 (lv_at hl 0 rfl) ?_
                                            refine lv_aload_n hx hb dX0_closeParts_204 rfl (lv_at hl 5 rfl) ?_
                                            refine g_calli (va_runV (As := []) (rest := [.int r_393, .int 1]) ⟨hx, hb, hml, hown, hts⟩ (r_X0_takeHeight l dC dI L kd tys fr_460 H.size g.2.2.2.1 a0_ ma0_ ka0_) (cwV 0 hts (gV_ t_1199 t_1201 t_16 t_190 t_1202) rfl rfl rfl (by decide +kernel) ⟨(Nat.le_of_ble_eq_true rfl), (Nat.le_of_ble_eq_true rfl)⟩) (pre3V g hK ma0_ ka0_ (by decide) (q := (RX0, TX0, 14)) rfl) rfl rfl hl.1 rfl (lv_room (Nat.le_of_ble_eq_true rfl)) dX0_closeParts_205 ⟨(Nat.le_of_ble_eq_true rfl), (Nat.le_of_ble_eq_true rfl)⟩) g hK (by decide) (by decide) (fx' := [(0, 5, a0_, .ref a_458), (7, 6, q1_, .int x_455), (0, 8, a0_, .int y_346), (8, 6, q0_, .int 1201), (8, 8, q0_, .int x_332), (0, 4, a0_, .ref a_329), (0, 12, a0_, .int 0), (0, 3, a0_, .ref g76_0_3_a0_), (0, 0, a0_, .ref q0_), (0, 2, a0_, .ref q1_)]) rfl (fun r_461 fr_461 H locs hp hMr_461 g => ?_)
                                            obtain ⟨x_462, h_463, hF_464⟩ := hp
                                            have g := g.more hF_464
                                            refine va_mmax hx hb (hml.trans hl.1.symm) hown (hts _ (List.mem_cons_of_mem _ t_1194)) (hts _ (List.mem_cons_of_mem _ t_1041)) (hts _ (List.mem_cons_of_mem _ t_204)) (hts _ (List.mem_cons_of_mem _ t_1042)) (Nat.le_of_ble_eq_true rfl) (Nat.le_of_ble_eq_true rfl) (Nat.le_of_ble_eq_true rfl) (Nat.le_of_ble_eq_true rfl) dX0_closeParts_208 ?_
                                            refine lv_topi (fun y_465 ey_465 => ?_)
                                            have ty_465 : y_465.toInt = max r_393.toInt r_461.toInt := by rw [ey_465]; exact mmax_ok _ _
                                            have b_466 : bd (-2147483648) 2147483647 y_465 := max_rg ty_465 (bdT r_393) (bdT r_461) (by decide)
                                            refine lv_iadd hx hb dX0_closeParts_211 ?_
                                            refine lv_topi (fun y_467 ey_467 => ?_)
                                            refine lv_istore (lv' := [(6, .int y_467), (2, .int 1), (5, .int 0), (4, .int x_348), (3, .int v4_3), (0, .ref a0_), (1, .int x1_)]) hx hb dX0_closeParts_212 hl (by decide) rfl (fun ls hl => ?_)
                                            refine lv_aload_n hx hb dX0_closeParts_214 rfl (lv_at hl 5 rfl) ?_
                                            refine lv_iload hx hb dX0_closeParts_215 (lv_at hl 0 rfl) ?_
                                            refine g_callv (va_runV (As := [.int y_467]) (rest := []) ⟨hx, hb, hml, hown, hts⟩ (r_X0_addWhole l dC dI L kd tys fr_461 H.size g.2.2.2.1 a0_ ma0_ ka0_ y_467) (cwV 1 hts (gV_ t_1211 t_1213 t_17 t_190 t_1214) rfl rfl rfl (by decide +kernel) ⟨(Nat.le_of_ble_eq_true rfl), (Nat.le_of_ble_eq_true rfl)⟩) (pre3V g hK ma0_ ka0_ (by decide) (q := (RX0, TX0, 14)) rfl) rfl rfl hl.1 rfl (lv_room (Nat.le_of_ble_eq_true rfl)) dX0_closeParts_217 ⟨(Nat.le_of_ble_eq_true rfl), (Nat.le_of_ble_eq_true rfl)⟩) g hK (by decide) (by decide) (fx' := [(0, 5, a0_, .ref a_458), (7, 6, q1_, .int x_455), (0, 8, a0_, .int y_346), (8, 6, q0_, .int 1201), (8, 8, q0_, .int x_332), (0, 4, a0_, .ref a_329), (0, 3, a0_, .ref g76_0_3_a0_), (0, 0, a0_, .ref q0_), (0, 2, a0_, .ref q1_)]) rfl (fun fr_468 H locs hp hMr_468 g => ?_)
                                            obtain ⟨x_469, h_470, hF_471⟩ := hp
                                            have g := g.more hF_471
                                            refine lv_iload hx hb dX0_closeParts_220 (lv_at hl 0 rfl) ?_
                                            refine lv_bipush (v := 12) hx hb dX0_closeParts_222 (by decide) ?_
                                            refine lv_icmp_le (tgt := 245) hx hb dX0_closeParts_224 (by decide) (fun c_472 => ?_) (fun c_472 => ?_)
                                            · have fc_472 := le_f c_472
                                              have b_473 : bd (-2147483648) 12 y_467 := leL fc_472 (bdT y_467) kb_12 (by decide)
                                              obtain ⟨y_474, ey_474⟩ : ∃ z : Int32, z = v4_3 + 1 := ⟨_, rfl⟩
                                              refine lv_iinc (v := y_474) (lv' := [(3, .int y_474), (6, .int y_467), (2, .int 1), (5, .int 0), (4, .int x_348), (0, .ref a0_), (1, .int x1_)]) hx hb dX0_closeParts_245 hl (k := 4) rfl (by rw [ey_474]; rfl) (by decide) rfl (fun ls hl => ?_)
                                              have ty_474 := add_bd ey_474 b_340 kb_1 (by decide)
                                              have b_475 : bd 2 300 y_474 := add_rg ty_474 b_340 kb_1 (by decide)
                                              refine lv_goto (tgt := 4) hx hb dX0_closeParts_248 (by decide) ?_
                                              have hl9 := lv_sub hl [0, 1, 2, 3, 4, 5, 6] (by rfl : lv_pick [(3, .int y_474), (6, .int y_467), (2, .int 1), (5, .int 0), (4, .int x_348), (0, .ref a0_), (1, .int x1_)] [0, 1, 2, 3, 4, 5, 6] = [(3, .int y_474), (6, .int y_467), (2, .int 1), (5, .int 0), (4, .int x_348), (0, .ref a0_), (1, .int x1_)])
                                              have g9 := g.sub (fx' := [(8, 6, q0_, .int 1201), (8, 8, q0_, .int x_332), (0, 4, a0_, .ref a_329), (0, 12, a0_, .int 0), (0, 10, a0_, .int x_469), (7, 6, q1_, .int x_455), (0, 8, a0_, .int y_346), (0, 3, a0_, .ref g76_0_3_a0_), (0, 0, a0_, .ref q0_), (0, 2, a0_, .ref q1_)]) [5, 6, 7, 0, 1, 3, 4, 8, 9, 10] rfl
                                              exact ih4  y_474 y_467 1 0 x_348 x_469 x_455 y_346 (bd_sub b_475 (by decide)) (bd_sub kb_1 (by decide)) (bd_sub kb_0 (by decide)) h_470 h_456 (bd_sub b_347 (by decide)) (by have h9_0 := b_347; unfold bd at h9_0; have h9_1 := b_453; unfold bd at h9_1; have h9_2 := b_473; unfold bd at h9_2; have h9_3 := b_475; unfold bd at h9_3; have h9_4 := bdT v4_4; unfold bd at h9_4; have h9_5 := bdT v4_6; unfold bd at h9_5; have h9_6 := bv4_2; unfold bd at h9_6; have h9_7 := bv4_3; unfold bd at h9_7; have h9_8 := bv4_5; unfold bd at h9_8; have h9_9 := bw4_0_10_a0_; unfold bd at h9_9; have h9_10 := bw4_0_8_a0_; unfold bd at h9_10; have h9_11 := bw4_7_6_q1_; unfold bd at h9_11; have h9_12 := h_456; unfold bd at h9_12; have h9_13 := h_470; unfold bd at h9_13; have h9_14 := kb_0; unfold bd at h9_14; have h9_15 := kb_1; unfold bd at h9_15; have h9_16 := kb_12; unfold bd at h9_16; have h9_17 := kb_205; unfold bd at h9_17; have h9_18 := kb_206; unfold bd at h9_18; have h9_19 := kb_300; unfold bd at h9_19; have h9_20 := kb_6; unfold bd at h9_20; have h9_21 := kb_7; unfold bd at h9_21; omega) _ _ _ _ g9  hl9
                                            · have fc_472 := nle_f c_472
                                              have b_476 : bd 13 2147483647 y_467 := ltR fc_472 kb_12 (bdT y_467) (by decide)
                                              refine lv_aload_n hx hb dX0_closeParts_227 rfl (lv_at hl 5 rfl) ?_
                                              refine g_getk (C := RX0) (T := TX0) (N := 14) hx hb hts (mc_ inX0) hown hK g rfl 0 (by decide) rfl (hts _ (List.mem_cons_of_mem _ t_373)) (fun _ h9 => h9) 9 rfl dX0_closeParts_228 ?_
                                              refine lv_bipush (v := 7) hx hb dX0_closeParts_231 (by decide) ?_
                                              refine lv_aload_n hx hb dX0_closeParts_233 rfl (lv_at hl 5 rfl) ?_
                                              refine g_getk (C := RX0) (T := TX0) (N := 14) hx hb hts (mc_ inX0) hown hK g rfl 4 (by decide) rfl (hts _ (List.mem_cons_of_mem _ t_377)) (fun _ h9 => h9) 7 rfl dX0_closeParts_234 ?_
                                              refine lv_aload_n hx hb dX0_closeParts_237 rfl (lv_at hl 5 rfl) ?_
                                              refine g_getk (C := RX0) (T := TX0) (N := 14) hx hb hts (mc_ inX0) hown hK g rfl 8 (by decide) rfl (hts _ (List.mem_cons_of_mem _ t_381)) (fun _ h9 => h9) 4 rfl dX0_closeParts_238 ?_
                                              refine g_iald hx hb hK g ma_329 ka_329 (by decide) rfl (in_bd b_347 (by decide)) dX0_closeParts_241 (fun x_477 bx_477 cx_477 => ?_)
                                              refine g_callv (va_runV (As := [.int 7, .int x_477]) (rest := []) ⟨hx, hb, hml, hown, hts⟩ (r_X8_fail_2 l dC dI L kd tys fr_468 H.size g.2.2.2.1 q0_ mq0_ kq0_ 7 (bd_sub kb_7 (by decide)) x_477 x_332 h_333 (g.fcts [6] rfl)) (cwV 2 hts (gV_ t_1215 t_1107 t_1108 t_184 t_1109) rfl rfl rfl (by decide +kernel) ⟨(Nat.le_of_ble_eq_true rfl), (Nat.le_of_ble_eq_true rfl)⟩) (pre3V g hK mq0_ kq0_ (by decide) (q := (RX8, TX8, 10)) rfl) rfl rfl hl.1 rfl (lv_room (Nat.le_of_ble_eq_true rfl)) dX0_closeParts_242 ⟨(Nat.le_of_ble_eq_true rfl), (Nat.le_of_ble_eq_true rfl)⟩) g hK (by decide) (by decide) (fx' := [(0, 12, a0_, .int 0), (0, 10, a0_, .int x_469), (0, 5, a0_, .ref a_458), (7, 6, q1_, .int x_455), (0, 8, a0_, .int y_346), (8, 8, q0_, .int x_332), (0, 4, a0_, .ref a_329), (0, 3, a0_, .ref g76_0_3_a0_), (0, 0, a0_, .ref q0_), (0, 2, a0_, .ref q1_)]) rfl (fun fr_478 H locs hp hMr_478 g => ?_)
                                              have hF_479 := hp
                                              have g := g.more hF_479
                                              obtain ⟨y_480, ey_480⟩ : ∃ z : Int32, z = v4_3 + 1 := ⟨_, rfl⟩
                                              refine lv_iinc (v := y_480) (lv' := [(3, .int y_480), (6, .int y_467), (2, .int 1), (5, .int 0), (4, .int x_348), (0, .ref a0_), (1, .int x1_)]) hx hb dX0_closeParts_245 hl (k := 4) rfl (by rw [ey_480]; rfl) (by decide) rfl (fun ls hl => ?_)
                                              have ty_480 := add_bd ey_480 b_340 kb_1 (by decide)
                                              have b_481 : bd 2 300 y_480 := add_rg ty_480 b_340 kb_1 (by decide)
                                              refine lv_goto (tgt := 4) hx hb dX0_closeParts_248 (by decide) ?_
                                              have hl9 := lv_sub hl [0, 1, 2, 3, 4, 5, 6] (by rfl : lv_pick [(3, .int y_480), (6, .int y_467), (2, .int 1), (5, .int 0), (4, .int x_348), (0, .ref a0_), (1, .int x1_)] [0, 1, 2, 3, 4, 5, 6] = [(3, .int y_480), (6, .int y_467), (2, .int 1), (5, .int 0), (4, .int x_348), (0, .ref a0_), (1, .int x1_)])
                                              have g9 := g.sub (fx' := [(8, 6, q0_, .int 1201), (8, 8, q0_, .int x_332), (0, 4, a0_, .ref a_329), (0, 12, a0_, .int 0), (0, 10, a0_, .int x_469), (7, 6, q1_, .int x_455), (0, 8, a0_, .int y_346), (0, 3, a0_, .ref g76_0_3_a0_), (0, 0, a0_, .ref q0_), (0, 2, a0_, .ref q1_)]) [0, 6, 7, 1, 2, 4, 5, 8, 9, 10] rfl
                                              exact ih4  y_480 y_467 1 0 x_348 x_469 x_455 y_346 (bd_sub b_481 (by decide)) (bd_sub kb_1 (by decide)) (bd_sub kb_0 (by decide)) h_470 h_456 (bd_sub b_347 (by decide)) (by have h9_0 := b_347; unfold bd at h9_0; have h9_1 := b_453; unfold bd at h9_1; have h9_2 := b_476; unfold bd at h9_2; have h9_3 := b_481; unfold bd at h9_3; have h9_4 := bdT v4_4; unfold bd at h9_4; have h9_5 := bdT v4_6; unfold bd at h9_5; have h9_6 := bv4_2; unfold bd at h9_6; have h9_7 := bv4_3; unfold bd at h9_7; have h9_8 := bv4_5; unfold bd at h9_8; have h9_9 := bw4_0_10_a0_; unfold bd at h9_9; have h9_10 := bw4_0_8_a0_; unfold bd at h9_10; have h9_11 := bw4_7_6_q1_; unfold bd at h9_11; have h9_12 := h_456; unfold bd at h9_12; have h9_13 := h_470; unfold bd at h9_13; have h9_14 := kb_0; unfold bd at h9_14; have h9_15 := kb_1; unfold bd at h9_15; have h9_16 := kb_12; unfold bd at h9_16; have h9_17 := kb_205; unfold bd at h9_17; have h9_18 := kb_206; unfold bd at h9_18; have h9_19 := kb_300; unfold bd at h9_19; have h9_20 := kb_6; unfold bd at h9_20; have h9_21 := kb_7; unfold bd at h9_21; omega) _ _ _ _ g9  hl9
                                    · have b_482 : bd 37 206 x_348 := eqX rfl (bdT x_348) h_385 (by decide)
                                      refine lv_iload_n hx hb dX0_closeParts_66 rfl (lv_at hl 6 rfl) ?_
                                      refine lv_icmp_lt (tgt := 74) hx hb dX0_closeParts_67 (by decide) (fun c_483 => ?_) (fun c_483 => ?_)
                                      · have fc_483 := lt_f c_483
                                        have b_484 : bd 2 2147483647 x1_ := ltR fc_483 h_384 (bdT x1_) (by decide)
                                        refine lv_iconst (v := 0) hx hb dX0_closeParts_74 (by decide) ?_
                                        refine lv_istore_n (lv' := [(2, .int 0), (5, .int 0), (4, .int x_348), (3, .int v4_3), (6, .int v4_6), (0, .ref a0_), (1, .int x1_)]) hx hb dX0_closeParts_75 rfl hl (by decide) rfl (fun ls hl => ?_)
                                        refine lv_iload_n hx hb dX0_closeParts_76 rfl (lv_at hl 0 rfl) ?_
                                        refine lv_if_eq (tgt := 245) hx hb dX0_closeParts_77 (by decide) (fun c_ => ?_) (fun c_ => absurd (by decide) c_)
                                        obtain ⟨y_485, ey_485⟩ : ∃ z : Int32, z = v4_3 + 1 := ⟨_, rfl⟩
                                        refine lv_iinc (v := y_485) (lv' := [(3, .int y_485), (2, .int 0), (5, .int 0), (4, .int x_348), (6, .int v4_6), (0, .ref a0_), (1, .int x1_)]) hx hb dX0_closeParts_245 hl (k := 3) rfl (by rw [ey_485]; rfl) (by decide) rfl (fun ls hl => ?_)
                                        have ty_485 := add_bd ey_485 b_340 kb_1 (by decide)
                                        have b_486 : bd 2 300 y_485 := add_rg ty_485 b_340 kb_1 (by decide)
                                        refine lv_goto (tgt := 4) hx hb dX0_closeParts_248 (by decide) ?_
                                        have hl9 := lv_sub hl [0, 4, 1, 2, 3, 5, 6] (by rfl : lv_pick [(3, .int y_485), (2, .int 0), (5, .int 0), (4, .int x_348), (6, .int v4_6), (0, .ref a0_), (1, .int x1_)] [0, 4, 1, 2, 3, 5, 6] = [(3, .int y_485), (6, .int v4_6), (2, .int 0), (5, .int 0), (4, .int x_348), (0, .ref a0_), (1, .int x1_)])
                                        have g9 := g.sub (fx' := [(8, 6, q0_, .int 1201), (8, 8, q0_, .int x_332), (0, 4, a0_, .ref a_329), (0, 12, a0_, .int 0), (0, 10, a0_, .int w4_0_10_a0_), (7, 6, q1_, .int w4_7_6_q1_), (0, 8, a0_, .int w4_0_8_a0_), (0, 3, a0_, .ref g76_0_3_a0_), (0, 0, a0_, .ref q0_), (0, 2, a0_, .ref q1_)]) [0, 1, 2, 3, 4, 5, 6, 7, 8, 9] rfl
                                        exact ih4  y_485 v4_6 0 0 x_348 w4_0_10_a0_ w4_7_6_q1_ w4_0_8_a0_ (bd_sub b_486 (by decide)) (bd_sub kb_0 (by decide)) (bd_sub kb_0 (by decide)) bw4_0_10_a0_ bw4_7_6_q1_ (bd_sub b_345 (by decide)) (by have h9_0 := b_345; unfold bd at h9_0; have h9_1 := b_482; unfold bd at h9_1; have h9_2 := b_486; unfold bd at h9_2; have h9_3 := bdT v4_4; unfold bd at h9_3; have h9_4 := bdT v4_6; unfold bd at h9_4; have h9_5 := bv4_2; unfold bd at h9_5; have h9_6 := bv4_3; unfold bd at h9_6; have h9_7 := bv4_5; unfold bd at h9_7; have h9_8 := bw4_0_10_a0_; unfold bd at h9_8; have h9_9 := bw4_0_8_a0_; unfold bd at h9_9; have h9_10 := bw4_7_6_q1_; unfold bd at h9_10; have h9_11 := kb_0; unfold bd at h9_11; have h9_12 := kb_1; unfold bd at h9_12; have h9_13 := kb_12; unfold bd at h9_13; have h9_14 := kb_300; unfold bd at h9_14; have h9_15 := kb_6; unfold bd at h9_15; have h9_16 := kb_7; unfold bd at h9_16; omega) _ _ _ _ g9  hl9
                                      · have fc_483 := nlt_f c_483
                                        have b_487 : bd (-2147483648) 5 x1_ := leL fc_483 (bdT x1_) h_384 (by decide)
                                        refine lv_iconst (v := 1) hx hb dX0_closeParts_70 (by decide) ?_
                                        refine lv_goto (tgt := 75) hx hb dX0_closeParts_71 (by decide) ?_
                                        refine lv_istore_n (lv' := [(2, .int 1), (5, .int 0), (4, .int x_348), (3, .int v4_3), (6, .int v4_6), (0, .ref a0_), (1, .int x1_)]) hx hb dX0_closeParts_75 rfl hl (by decide) rfl (fun ls hl => ?_)
                                        refine lv_iload_n hx hb dX0_closeParts_76 rfl (lv_at hl 0 rfl) ?_
                                        refine lv_if_eq (tgt := 245) hx hb dX0_closeParts_77 (by decide) (fun c_ => absurd c_ (by decide)) (fun c_ => ?_)
                                        refine lv_aload_n hx hb dX0_closeParts_80 rfl (lv_at hl 5 rfl) ?_
                                        refine lv_dup hx hb dX0_closeParts_81 rfl ?_
                                        refine g_getk (C := RX0) (T := TX0) (N := 14) hx hb hts (mc_ inX0) hown hK g rfl 8 (by decide) rfl (hts _ (List.mem_cons_of_mem _ t_381)) (fun _ h9 => h9) 6 rfl dX0_closeParts_82 ?_
                                        refine lv_iconst (v := 1) hx hb dX0_closeParts_85 (by decide) ?_
                                        refine lv_isub hx hb dX0_closeParts_86 ?_
                                        refine lv_topi (fun y_488 ey_488 => ?_)
                                        obtain rfl : y_346 = y_488 := ey_346.trans ey_488.symm
                                        refine g_put (C := RX0) (T := TX0) (N := 14) hx hb hts (mc_ inX0) tyX0 tyX0_ok nmX0 hown hK g ma0_ ka0_ (by decide) rfl 8 (by decide) (hts _ (List.mem_cons_of_mem _ t_381)) (fun _ h9 => h9) rfl rfl (okV_i (bd_sub b_347 (by decide))) rfl rfl (by decide) (Or.inr (Or.inl (by decide))) (fx' := [(8, 6, q0_, .int 1201), (8, 8, q0_, .int x_332), (0, 4, a0_, .ref a_329), (0, 12, a0_, .int 0), (0, 10, a0_, .int w4_0_10_a0_), (7, 6, q1_, .int w4_7_6_q1_), (0, 3, a0_, .ref g76_0_3_a0_), (0, 0, a0_, .ref q0_), (0, 2, a0_, .ref q1_)]) rfl dX0_closeParts_87 (fun f H locs hM_489 g => ?_)
                                        refine lv_aload_n hx hb dX0_closeParts_90 rfl (lv_at hl 5 rfl) ?_
                                        refine g_calli (va_runV (As := []) (rest := []) ⟨hx, hb, hml, hown, hts⟩ (r_X0_takeHeight l dC dI L kd tys f H.size g.2.2.2.1 a0_ ma0_ ka0_) (cwV 0 hts (gV_ t_1199 t_1201 t_16 t_190 t_1202) rfl rfl rfl (by decide +kernel) ⟨(Nat.le_of_ble_eq_true rfl), (Nat.le_of_ble_eq_true rfl)⟩) (pre3V g hK ma0_ ka0_ (by decide) (q := (RX0, TX0, 14)) rfl) rfl rfl hl.1 rfl (lv_room (Nat.le_of_ble_eq_true rfl)) dX0_closeParts_91 ⟨(Nat.le_of_ble_eq_true rfl), (Nat.le_of_ble_eq_true rfl)⟩) g hK (by decide) (by decide) (fx' := [(0, 8, a0_, .int y_346), (8, 6, q0_, .int 1201), (8, 8, q0_, .int x_332), (0, 4, a0_, .ref a_329), (0, 12, a0_, .int 0), (7, 6, q1_, .int w4_7_6_q1_), (0, 3, a0_, .ref g76_0_3_a0_), (0, 0, a0_, .ref q0_), (0, 2, a0_, .ref q1_)]) rfl (fun r_490 fr_490 H locs hp hMr_490 g => ?_)
                                        obtain ⟨x_491, h_492, hF_493⟩ := hp
                                        have g := g.more hF_493
                                        refine lv_istore (lv' := [(6, .int r_490), (2, .int 1), (5, .int 0), (4, .int x_348), (3, .int v4_3), (0, .ref a0_), (1, .int x1_)]) hx hb dX0_closeParts_94 hl (by decide) rfl (fun ls hl => ?_)
                                        refine lv_iload hx hb dX0_closeParts_96 (lv_at hl 2 rfl) ?_
                                        refine lv_if_eq (tgt := 136) hx hb dX0_closeParts_98 (by decide) (fun c_ => ?_) (fun c_ => absurd (by decide) c_)
                                        refine lv_iload hx hb dX0_closeParts_136 (lv_at hl 3 rfl) ?_
                                        refine lv_sipush (v := 205) hx hb dX0_closeParts_138 (by decide) ?_
                                        have kb_205 : bd 205 205 (205 : Int32) := ⟨by decide, by decide⟩
                                        refine lv_icmp_eq (tgt := 152) hx hb dX0_closeParts_141 (by decide) (fun c_494 => ?_) (fun c_494 => ?_)
                                        · have fc_494 := eq_f c_494
                                          have b_495 : bd 205 205 x_348 := eqX fc_494 b_482 kb_205 (by decide)
                                          refine lv_aload_n hx hb dX0_closeParts_152 rfl (lv_at hl 5 rfl) ?_
                                          refine g_getk (C := RX0) (T := TX0) (N := 14) hx hb hts (mc_ inX0) hown hK g rfl 2 (by decide) rfl (hts _ (List.mem_cons_of_mem _ t_375)) (fun _ h9 => h9) 9 rfl dX0_closeParts_153 ?_
                                          refine lv_bipush (v := 8) hx hb dX0_closeParts_156 (by decide) ?_
                                          refine lv_iconst (v := 0) hx hb dX0_closeParts_158 (by decide) ?_
                                          refine g_callv (va_runV (As := [.int 8, .int 0]) (rest := []) ⟨hx, hb, hml, hown, hts⟩ (r_X7_emit l dC dI L kd tys fr_490 H.size g.2.2.2.1 q1_ mq1_ kq1_ 8 0) (cwV 2 hts (gV_ t_1203 t_1204 t_1205 t_191 t_1206) rfl rfl rfl (by decide +kernel) ⟨(Nat.le_of_ble_eq_true rfl), (Nat.le_of_ble_eq_true rfl)⟩) (pre3V g hK mq1_ kq1_ (by decide) (q := (RX7, TX7, 19)) rfl) rfl rfl hl.1 rfl (lv_room (Nat.le_of_ble_eq_true rfl)) dX0_closeParts_159 ⟨(Nat.le_of_ble_eq_true rfl), (Nat.le_of_ble_eq_true rfl)⟩) g hK (by decide) (by decide) (fx' := [(0, 10, a0_, .int x_491), (0, 8, a0_, .int y_346), (8, 6, q0_, .int 1201), (8, 8, q0_, .int x_332), (0, 4, a0_, .ref a_329), (0, 12, a0_, .int 0), (0, 3, a0_, .ref g76_0_3_a0_), (0, 0, a0_, .ref q0_), (0, 2, a0_, .ref q1_)]) rfl (fun fr_496 H locs hp hMr_496 g => ?_)
                                          obtain ⟨x_497, h_498, hF_499⟩ := hp
                                          have g := g.more hF_499
                                          refine lv_aload_n hx hb dX0_closeParts_162 rfl (lv_at hl 5 rfl) ?_
                                          refine g_getk (C := RX0) (T := TX0) (N := 14) hx hb hts (mc_ inX0) hown hK g rfl 2 (by decide) rfl (hts _ (List.mem_cons_of_mem _ t_375)) (fun _ h9 => h9) 9 rfl dX0_closeParts_163 ?_
                                          refine lv_aload_n hx hb dX0_closeParts_166 rfl (lv_at hl 5 rfl) ?_
                                          refine g_getr (K := 112) (C := RX0) (T := TX0) (N := 14) hx hb hts (mc_ inX0) hown hK g ma0_ ka0_ (by decide) rfl 5 (by decide) rfl (hts _ (List.mem_cons_of_mem _ t_378)) (fun _ h9 => h9) rfl dX0_closeParts_167 (fun a_500 ma_500 ka_500 g => ?_)
                                          refine lv_aload_n hx hb dX0_closeParts_170 rfl (lv_at hl 5 rfl) ?_
                                          refine g_getk (C := RX0) (T := TX0) (N := 14) hx hb hts (mc_ inX0) hown hK g rfl 8 (by decide) rfl (hts _ (List.mem_cons_of_mem _ t_381)) (fun _ h9 => h9) 3 rfl dX0_closeParts_171 ?_
                                          refine g_iald hx hb hK g ma_500 ka_500 (by decide) rfl (in_bd b_347 (by decide)) dX0_closeParts_174 (fun x_501 bx_501 cx_501 => ?_)
                                          refine g_callv (va_runV (As := [.int x_501]) (rest := []) ⟨hx, hb, hml, hown, hts⟩ (r_X7_leadHere l dC dI L kd tys fr_496 H.size g.2.2.2.1 q1_ mq1_ kq1_ x_501) (cwV 1 hts (gV_ t_1207 t_1208 t_1209 t_191 t_1210) rfl rfl rfl (by decide +kernel) ⟨(Nat.le_of_ble_eq_true rfl), (Nat.le_of_ble_eq_true rfl)⟩) (pre3V g hK mq1_ kq1_ (by decide) (q := (RX7, TX7, 19)) rfl) rfl rfl hl.1 rfl (lv_room (Nat.le_of_ble_eq_true rfl)) dX0_closeParts_175 ⟨(Nat.le_of_ble_eq_true rfl), (Nat.le_of_ble_eq_true rfl)⟩) g hK (by decide) (by decide) (fx' := [(0, 5, a0_, .ref a_500), (7, 6, q1_, .int x_497), (0, 10, a0_, .int x_491), (0, 8, a0_, .int y_346), (8, 6, q0_, .int 1201), (8, 8, q0_, .int x_332), (0, 4, a0_, .ref a_329), (0, 12, a0_, .int 0), (0, 3, a0_, .ref g76_0_3_a0_), (0, 0, a0_, .ref q0_), (0, 2, a0_, .ref q1_)]) rfl (fun fr_502 H locs hp hMr_502 g => ?_)
                                          refine lv_goto (tgt := 191) hx hb dX0_closeParts_178 (by decide) ?_
                                          refine lv_iconst (v := 1) hx hb dX0_closeParts_191 (by decide) ?_
                                          refine lv_iload hx hb dX0_closeParts_192 (lv_at hl 2 rfl) ?_
                                          refine lv_if_eq (tgt := 202) hx hb dX0_closeParts_194 (by decide) (fun c_ => ?_) (fun c_ => absurd (by decide) c_)
                                          refine lv_iload hx hb dX0_closeParts_202 (lv_at hl 0 rfl) ?_
                                          refine lv_aload_n hx hb dX0_closeParts_204 rfl (lv_at hl 5 rfl) ?_
                                          refine g_calli (va_runV (As := []) (rest := [.int r_490, .int 1]) ⟨hx, hb, hml, hown, hts⟩ (r_X0_takeHeight l dC dI L kd tys fr_502 H.size g.2.2.2.1 a0_ ma0_ ka0_) (cwV 0 hts (gV_ t_1199 t_1201 t_16 t_190 t_1202) rfl rfl rfl (by decide +kernel) ⟨(Nat.le_of_ble_eq_true rfl), (Nat.le_of_ble_eq_true rfl)⟩) (pre3V g hK ma0_ ka0_ (by decide) (q := (RX0, TX0, 14)) rfl) rfl rfl hl.1 rfl (lv_room (Nat.le_of_ble_eq_true rfl)) dX0_closeParts_205 ⟨(Nat.le_of_ble_eq_true rfl), (Nat.le_of_ble_eq_true rfl)⟩) g hK (by decide) (by decide) (fx' := [(0, 5, a0_, .ref a_500), (7, 6, q1_, .int x_497), (0, 8, a0_, .int y_346), (8, 6, q0_, .int 1201), (8, 8, q0_, .int x_332), (0, 4, a0_, .ref a_329), (0, 12, a0_, .int 0), (0, 3, a0_, .ref g76_0_3_a0_), (0, 0, a0_, .ref q0_), (0, 2, a0_, .ref q1_)]) rfl (fun r_503 fr_503 H locs hp hMr_503 g => ?_)
                                          obtain ⟨x_504, h_505, hF_506⟩ := hp
                                          have g := g.more hF_506
                                          refine va_mmax hx hb (hml.trans hl.1.symm) hown (hts _ (List.mem_cons_of_mem _ t_1194)) (hts _ (List.mem_cons_of_mem _ t_1041)) (hts _ (List.mem_cons_of_mem _ t_204)) (hts _ (List.mem_cons_of_mem _ t_1042)) (Nat.le_of_ble_eq_true rfl) (Nat.le_of_ble_eq_true rfl) (Nat.le_of_ble_eq_true rfl) (Nat.le_of_ble_eq_true rfl) dX0_closeParts_208 ?_
                                          refine lv_topi (fun y_507 ey_507 => ?_)
                                          have ty_507 : y_507.toInt = max r_490.toInt r_503.toInt := by rw [ey_507]; exact mmax_ok _ _
                                          have b_508 : bd (-2147483648) 2147483647 y_507 := max_rg ty_507 (bdT r_490) (bdT r_503) (by decide)
                                          refine lv_iadd hx hb dX0_closeParts_211 ?_
                                          refine lv_topi (fun y_509 ey_509 => ?_)
                                          refine lv_istore (lv' := [(6, .int y_509), (2, .int 1), (5, .int 0), (4, .int x_348), (3, .int v4_3), (0, .ref a0_), (1, .int x1_)]) hx hb dX0_closeParts_212 hl (by decide) rfl (fun ls hl => ?_)
                                          refine lv_aload_n hx hb dX0_closeParts_214 rfl (lv_at hl 5 rfl) ?_
                                          refine lv_iload hx hb dX0_closeParts_215 (lv_at hl 0 rfl) ?_
                                          refine g_callv (va_runV (As := [.int y_509]) (rest := []) ⟨hx, hb, hml, hown, hts⟩ (r_X0_addWhole l dC dI L kd tys fr_503 H.size g.2.2.2.1 a0_ ma0_ ka0_ y_509) (cwV 1 hts (gV_ t_1211 t_1213 t_17 t_190 t_1214) rfl rfl rfl (by decide +kernel) ⟨(Nat.le_of_ble_eq_true rfl), (Nat.le_of_ble_eq_true rfl)⟩) (pre3V g hK ma0_ ka0_ (by decide) (q := (RX0, TX0, 14)) rfl) rfl rfl hl.1 rfl (lv_room (Nat.le_of_ble_eq_true rfl)) dX0_closeParts_217 ⟨(Nat.le_of_ble_eq_true rfl), (Nat.le_of_ble_eq_true rfl)⟩) g hK (by decide) (by decide) (fx' := [(0, 5, a0_, .ref a_500), (7, 6, q1_, .int x_497), (0, 8, a0_, .int y_346), (8, 6, q0_, .int 1201), (8, 8, q0_, .int x_332), (0, 4, a0_, .ref a_329), (0, 3, a0_, .ref g76_0_3_a0_), (0, 0, a0_, .ref q0_), (0, 2, a0_, .ref q1_)]) rfl (fun fr_510 H locs hp hMr_510 g => ?_)
                                          obtain ⟨x_511, h_512, hF_513⟩ := hp
                                          have g := g.more hF_513
                                          refine lv_iload hx hb dX0_closeParts_220 (lv_at hl 0 rfl) ?_
                                          refine lv_bipush (v := 12) hx hb dX0_closeParts_222 (by decide) ?_
                                          refine lv_icmp_le (tgt := 245) hx hb dX0_closeParts_224 (by decide) (fun c_514 => ?_) (fun c_514 => ?_)
                                          · have fc_514 := le_f c_514
                                            have b_515 : bd (-2147483648) 12 y_509 := leL fc_514 (bdT y_509) kb_12 (by decide)
                                            obtain ⟨y_516, ey_516⟩ : ∃ z : Int32, z = v4_3 + 1 := ⟨_, rfl⟩
                                            refine lv_iinc (v := y_516) (lv' := [(3, .int y_516), (6, .int y_509), (2, .int 1), (5, .int 0), (4, .int x_348), (0, .ref a0_), (1, .int x1_)]) hx hb dX0_closeParts_245 hl (k := 4) rfl (by rw [ey_516]; rfl) (by decide) rfl (fun ls hl => ?_)
                                            have ty_516 := add_bd ey_516 b_340 kb_1 (by decide)
                                            have b_517 : bd 2 300 y_516 := add_rg ty_516 b_340 kb_1 (by decide)
                                            refine lv_goto (tgt := 4) hx hb dX0_closeParts_248 (by decide) ?_
                                            have hl9 := lv_sub hl [0, 1, 2, 3, 4, 5, 6] (by rfl : lv_pick [(3, .int y_516), (6, .int y_509), (2, .int 1), (5, .int 0), (4, .int x_348), (0, .ref a0_), (1, .int x1_)] [0, 1, 2, 3, 4, 5, 6] = [(3, .int y_516), (6, .int y_509), (2, .int 1), (5, .int 0), (4, .int x_348), (0, .ref a0_), (1, .int x1_)])
                                            have g9 := g.sub (fx' := [(8, 6, q0_, .int 1201), (8, 8, q0_, .int x_332), (0, 4, a0_, .ref a_329), (0, 12, a0_, .int 0), (0, 10, a0_, .int x_511), (7, 6, q1_, .int x_497), (0, 8, a0_, .int y_346), (0, 3, a0_, .ref g76_0_3_a0_), (0, 0, a0_, .ref q0_), (0, 2, a0_, .ref q1_)]) [5, 6, 7, 0, 1, 3, 4, 8, 9, 10] rfl
                                            exact ih4  y_516 y_509 1 0 x_348 x_511 x_497 y_346 (bd_sub b_517 (by decide)) (bd_sub kb_1 (by decide)) (bd_sub kb_0 (by decide)) h_512 h_498 (bd_sub b_347 (by decide)) (by have h9_0 := b_347; unfold bd at h9_0; have h9_1 := b_495; unfold bd at h9_1; have h9_2 := b_515; unfold bd at h9_2; have h9_3 := b_517; unfold bd at h9_3; have h9_4 := bdT v4_4; unfold bd at h9_4; have h9_5 := bdT v4_6; unfold bd at h9_5; have h9_6 := bv4_2; unfold bd at h9_6; have h9_7 := bv4_3; unfold bd at h9_7; have h9_8 := bv4_5; unfold bd at h9_8; have h9_9 := bw4_0_10_a0_; unfold bd at h9_9; have h9_10 := bw4_0_8_a0_; unfold bd at h9_10; have h9_11 := bw4_7_6_q1_; unfold bd at h9_11; have h9_12 := h_498; unfold bd at h9_12; have h9_13 := h_512; unfold bd at h9_13; have h9_14 := kb_0; unfold bd at h9_14; have h9_15 := kb_1; unfold bd at h9_15; have h9_16 := kb_12; unfold bd at h9_16; have h9_17 := kb_205; unfold bd at h9_17; have h9_18 := kb_300; unfold bd at h9_18; have h9_19 := kb_6; unfold bd at h9_19; have h9_20 := kb_7; unfold bd at h9_20; omega) _ _ _ _ g9  hl9
                                          · have fc_514 := nle_f c_514
                                            have b_518 : bd 13 2147483647 y_509 := ltR fc_514 kb_12 (bdT y_509) (by decide)
                                            refine lv_aload_n hx hb dX0_closeParts_227 rfl (lv_at hl 5 rfl) ?_
                                            refine g_getk (C := RX0) (T := TX0) (N := 14) hx hb hts (mc_ inX0) hown hK g rfl 0 (by decide) rfl (hts _ (List.mem_cons_of_mem _ t_373)) (fun _ h9 => h9) 9 rfl dX0_closeParts_228 ?_
                                            refine lv_bipush (v := 7) hx hb dX0_closeParts_231 (by decide) ?_
                                            refine lv_aload_n hx hb dX0_closeParts_233 rfl (lv_at hl 5 rfl) ?_
                                            refine g_getk (C := RX0) (T := TX0) (N := 14) hx hb hts (mc_ inX0) hown hK g rfl 4 (by decide) rfl (hts _ (List.mem_cons_of_mem _ t_377)) (fun _ h9 => h9) 7 rfl dX0_closeParts_234 ?_
                                            refine lv_aload_n hx hb dX0_closeParts_237 rfl (lv_at hl 5 rfl) ?_
                                            refine g_getk (C := RX0) (T := TX0) (N := 14) hx hb hts (mc_ inX0) hown hK g rfl 8 (by decide) rfl (hts _ (List.mem_cons_of_mem _ t_381)) (fun _ h9 => h9) 4 rfl dX0_closeParts_238 ?_
                                            refine g_iald hx hb hK g ma_329 ka_329 (by decide) rfl (in_bd b_347 (by decide)) dX0_closeParts_241 (fun x_519 bx_519 cx_519 => ?_)
                                            refine g_callv (va_runV (As := [.int 7, .int x_519]) (rest := []) ⟨hx, hb, hml, hown, hts⟩ (r_X8_fail_2 l dC dI L kd tys fr_510 H.size g.2.2.2.1 q0_ mq0_ kq0_ 7 (bd_sub kb_7 (by decide)) x_519 x_332 h_333 (g.fcts [6] rfl)) (cwV 2 hts (gV_ t_1215 t_1107 t_1108 t_184 t_1109) rfl rfl rfl (by decide +kernel) ⟨(Nat.le_of_ble_eq_true rfl), (Nat.le_of_ble_eq_true rfl)⟩) (pre3V g hK mq0_ kq0_ (by decide) (q := (RX8, TX8, 10)) rfl) rfl rfl hl.1 rfl (lv_room (Nat.le_of_ble_eq_true rfl)) dX0_closeParts_242 ⟨(Nat.le_of_ble_eq_true rfl), (Nat.le_of_ble_eq_true rfl)⟩) g hK (by decide) (by decide) (fx' := [(0, 12, a0_, .int 0), (0, 10, a0_, .int x_511), (0, 5, a0_, .ref a_500), (7, 6, q1_, .int x_497), (0, 8, a0_, .int y_346), (8, 8, q0_, .int x_332), (0, 4, a0_, .ref a_329), (0, 3, a0_, .ref g76_0_3_a0_), (0, 0, a0_, .ref q0_), (0, 2, a0_, .ref q1_)]) rfl (fun fr_520 H locs hp hMr_520 g => ?_)
                                            have hF_521 := hp
                                            have g := g.more hF_521
                                            obtain ⟨y_522, ey_522⟩ : ∃ z : Int32, z = v4_3 + 1 := ⟨_, rfl⟩
                                            refine lv_iinc (v := y_522) (lv' := [(3, .int y_522), (6, .int y_509), (2, .int 1), (5, .int 0), (4, .int x_348), (0, .ref a0_), (1, .int x1_)]) hx hb dX0_closeParts_245 hl (k := 4) rfl (by rw [ey_522]; rfl) (by decide) rfl (fun ls hl => ?_)
                                            have ty_522 := add_bd ey_522 b_340 kb_1 (by decide)
                                            have b_523 : bd 2 300 y_522 := add_rg ty_522 b_340 kb_1 (by decide)
                                            refine lv_goto (tgt := 4) hx hb dX0_closeParts_248 (by decide) ?_
                                            have hl9 := lv_sub hl [0, 1, 2, 3, 4, 5, 6] (by rfl : lv_pick [(3, .int y_522), (6, .int y_509), (2, .int 1), (5, .int 0), (4, .int x_348), (0, .ref a0_), (1, .int x1_)] [0, 1, 2, 3, 4, 5, 6] = [(3, .int y_522), (6, .int y_509), (2, .int 1), (5, .int 0), (4, .int x_348), (0, .ref a0_), (1, .int x1_)])
                                            have g9 := g.sub (fx' := [(8, 6, q0_, .int 1201), (8, 8, q0_, .int x_332), (0, 4, a0_, .ref a_329), (0, 12, a0_, .int 0), (0, 10, a0_, .int x_511), (7, 6, q1_, .int x_497), (0, 8, a0_, .int y_346), (0, 3, a0_, .ref g76_0_3_a0_), (0, 0, a0_, .ref q0_), (0, 2, a0_, .ref q1_)]) [0, 6, 7, 1, 2, 4, 5, 8, 9, 10] rfl
                                            exact ih4  y_522 y_509 1 0 x_348 x_511 x_497 y_346 (bd_sub b_523 (by decide)) (bd_sub kb_1 (by decide)) (bd_sub kb_0 (by decide)) h_512 h_498 (bd_sub b_347 (by decide)) (by have h9_0 := b_347; unfold bd at h9_0; have h9_1 := b_495; unfold bd at h9_1; have h9_2 := b_518; unfold bd at h9_2; have h9_3 := b_523; unfold bd at h9_3; have h9_4 := bdT v4_4; unfold bd at h9_4; have h9_5 := bdT v4_6; unfold bd at h9_5; have h9_6 := bv4_2; unfold bd at h9_6; have h9_7 := bv4_3; unfold bd at h9_7; have h9_8 := bv4_5; unfold bd at h9_8; have h9_9 := bw4_0_10_a0_; unfold bd at h9_9; have h9_10 := bw4_0_8_a0_; unfold bd at h9_10; have h9_11 := bw4_7_6_q1_; unfold bd at h9_11; have h9_12 := h_498; unfold bd at h9_12; have h9_13 := h_512; unfold bd at h9_13; have h9_14 := kb_0; unfold bd at h9_14; have h9_15 := kb_1; unfold bd at h9_15; have h9_16 := kb_12; unfold bd at h9_16; have h9_17 := kb_205; unfold bd at h9_17; have h9_18 := kb_300; unfold bd at h9_18; have h9_19 := kb_6; unfold bd at h9_19; have h9_20 := kb_7; unfold bd at h9_20; omega) _ _ _ _ g9  hl9
                                        · have fc_494 := neq_f c_494
                                          refine lv_iload hx hb dX0_closeParts_144 (lv_at hl 3 rfl) ?_
                                          refine lv_sipush (v := 206) hx hb dX0_closeParts_146 (by decide) ?_
                                          have kb_206 : bd 206 206 (206 : Int32) := ⟨by decide, by decide⟩
                                          refine lv_icmp_ne (tgt := 181) hx hb dX0_closeParts_149 (by decide) (fun c_524 => ?_) (fun c_524 => ?_)
                                          · have fc_524 := neq_f c_524
                                            have b_525 : bd 37 205 x_348 := neX fc_524 b_482 kb_206 (by decide)
                                            refine lv_aload_n hx hb dX0_closeParts_181 rfl (lv_at hl 5 rfl) ?_
                                            refine g_getk (C := RX0) (T := TX0) (N := 14) hx hb hts (mc_ inX0) hown hK g rfl 2 (by decide) rfl (hts _ (List.mem_cons_of_mem _ t_375)) (fun _ h9 => h9) 9 rfl dX0_closeParts_182 ?_
                                            refine lv_iload hx hb dX0_closeParts_185 (lv_at hl 3 rfl) ?_
                                            refine lv_iconst (v := 0) hx hb dX0_closeParts_187 (by decide) ?_
                                            refine g_callv (va_runV (As := [.int x_348, .int 0]) (rest := []) ⟨hx, hb, hml, hown, hts⟩ (r_X7_emit l dC dI L kd tys fr_490 H.size g.2.2.2.1 q1_ mq1_ kq1_ x_348 0) (cwV 2 hts (gV_ t_1203 t_1204 t_1205 t_191 t_1206) rfl rfl rfl (by decide +kernel) ⟨(Nat.le_of_ble_eq_true rfl), (Nat.le_of_ble_eq_true rfl)⟩) (pre3V g hK mq1_ kq1_ (by decide) (q := (RX7, TX7, 19)) rfl) rfl rfl hl.1 rfl (lv_room (Nat.le_of_ble_eq_true rfl)) dX0_closeParts_188 ⟨(Nat.le_of_ble_eq_true rfl), (Nat.le_of_ble_eq_true rfl)⟩) g hK (by decide) (by decide) (fx' := [(0, 10, a0_, .int x_491), (0, 8, a0_, .int y_346), (8, 6, q0_, .int 1201), (8, 8, q0_, .int x_332), (0, 4, a0_, .ref a_329), (0, 12, a0_, .int 0), (0, 3, a0_, .ref g76_0_3_a0_), (0, 0, a0_, .ref q0_), (0, 2, a0_, .ref q1_)]) rfl (fun fr_526 H locs hp hMr_526 g => ?_)
                                            obtain ⟨x_527, h_528, hF_529⟩ := hp
                                            have g := g.more hF_529
                                            refine lv_iconst (v := 1) hx hb dX0_closeParts_191 (by decide) ?_
                                            refine lv_iload hx hb dX0_closeParts_192 (lv_at hl 2 rfl) ?_
                                            refine lv_if_eq (tgt := 202) hx hb dX0_closeParts_194 (by decide) (fun c_ => ?_) (fun c_ => absurd (by decide) c_)
                                            refine lv_iload hx hb dX0_closeParts_202 (lv_at hl 0 rfl) ?_
                                            refine lv_aload_n hx hb dX0_closeParts_204 rfl (lv_at hl 5 rfl) ?_
                                            refine g_calli (va_runV (As := []) (rest := [.int r_490, .int 1]) ⟨hx, hb, hml, hown, hts⟩ (r_X0_takeHeight l dC dI L kd tys fr_526 H.size g.2.2.2.1 a0_ ma0_ ka0_) (cwV 0 hts (gV_ t_1199 t_1201 t_16 t_190 t_1202) rfl rfl rfl (by decide +kernel) ⟨(Nat.le_of_ble_eq_true rfl), (Nat.le_of_ble_eq_true rfl)⟩) (pre3V g hK ma0_ ka0_ (by decide) (q := (RX0, TX0, 14)) rfl) rfl rfl hl.1 rfl (lv_room (Nat.le_of_ble_eq_true rfl)) dX0_closeParts_205 ⟨(Nat.le_of_ble_eq_true rfl), (Nat.le_of_ble_eq_true rfl)⟩) g hK (by decide) (by decide) (fx' := [(7, 6, q1_, .int x_527), (0, 8, a0_, .int y_346), (8, 6, q0_, .int 1201), (8, 8, q0_, .int x_332), (0, 4, a0_, .ref a_329), (0, 12, a0_, .int 0), (0, 3, a0_, .ref g76_0_3_a0_), (0, 0, a0_, .ref q0_), (0, 2, a0_, .ref q1_)]) rfl (fun r_530 fr_530 H locs hp hMr_530 g => ?_)
                                            obtain ⟨x_531, h_532, hF_533⟩ := hp
                                            have g := g.more hF_533
                                            refine va_mmax hx hb (hml.trans hl.1.symm) hown (hts _ (List.mem_cons_of_mem _ t_1194)) (hts _ (List.mem_cons_of_mem _ t_1041)) (hts _ (List.mem_cons_of_mem _ t_204)) (hts _ (List.mem_cons_of_mem _ t_1042)) (Nat.le_of_ble_eq_true rfl) (Nat.le_of_ble_eq_true rfl) (Nat.le_of_ble_eq_true rfl) (Nat.le_of_ble_eq_true rfl) dX0_closeParts_208 ?_
                                            refine lv_topi (fun y_534 ey_534 => ?_)
                                            have ty_534 : y_534.toInt = max r_490.toInt r_530.toInt := by rw [ey_534]; exact mmax_ok _ _
                                            have b_535 : bd (-2147483648) 2147483647 y_534 := max_rg ty_534 (bdT r_490) (bdT r_530) (by decide)
                                            refine lv_iadd hx hb dX0_closeParts_211 ?_
                                            refine lv_topi (fun y_536 ey_536 => ?_)
                                            refine lv_istore (lv' := [(6, .int y_536), (2, .int 1), (5, .int 0), (4, .int x_348), (3, .int v4_3), (0, .ref a0_), (1, .int x1_)]) hx hb dX0_closeParts_212 hl (by decide) rfl (fun ls hl => ?_)
                                            refine lv_aload_n hx hb dX0_closeParts_214 rfl (lv_at hl 5 rfl) ?_
                                            refine lv_iload hx hb dX0_closeParts_215 (lv_at hl 0 rfl) ?_
                                            refine g_callv (va_runV (As := [.int y_536]) (rest := []) ⟨hx, hb, hml, hown, hts⟩ (r_X0_addWhole l dC dI L kd tys fr_530 H.size g.2.2.2.1 a0_ ma0_ ka0_ y_536) (cwV 1 hts (gV_ t_1211 t_1213 t_17 t_190 t_1214) rfl rfl rfl (by decide +kernel) ⟨(Nat.le_of_ble_eq_true rfl), (Nat.le_of_ble_eq_true rfl)⟩) (pre3V g hK ma0_ ka0_ (by decide) (q := (RX0, TX0, 14)) rfl) rfl rfl hl.1 rfl (lv_room (Nat.le_of_ble_eq_true rfl)) dX0_closeParts_217 ⟨(Nat.le_of_ble_eq_true rfl), (Nat.le_of_ble_eq_true rfl)⟩) g hK (by decide) (by decide) (fx' := [(7, 6, q1_, .int x_527), (0, 8, a0_, .int y_346), (8, 6, q0_, .int 1201), (8, 8, q0_, .int x_332), (0, 4, a0_, .ref a_329), (0, 3, a0_, .ref g76_0_3_a0_), (0, 0, a0_, .ref q0_), (0, 2, a0_, .ref q1_)]) rfl (fun fr_537 H locs hp hMr_537 g => ?_)
                                            obtain ⟨x_538, h_539, hF_540⟩ := hp
                                            have g := g.more hF_540
                                            refine lv_iload hx hb dX0_closeParts_220 (lv_at hl 0 rfl) ?_
                                            refine lv_bipush (v := 12) hx hb dX0_closeParts_222 (by decide) ?_
                                            refine lv_icmp_le (tgt := 245) hx hb dX0_closeParts_224 (by decide) (fun c_541 => ?_) (fun c_541 => ?_)
                                            · have fc_541 := le_f c_541
                                              have b_542 : bd (-2147483648) 12 y_536 := leL fc_541 (bdT y_536) kb_12 (by decide)
                                              obtain ⟨y_543, ey_543⟩ : ∃ z : Int32, z = v4_3 + 1 := ⟨_, rfl⟩
                                              refine lv_iinc (v := y_543) (lv' := [(3, .int y_543), (6, .int y_536), (2, .int 1), (5, .int 0), (4, .int x_348), (0, .ref a0_), (1, .int x1_)]) hx hb dX0_closeParts_245 hl (k := 4) rfl (by rw [ey_543]; rfl) (by decide) rfl (fun ls hl => ?_)
                                              have ty_543 := add_bd ey_543 b_340 kb_1 (by decide)
                                              have b_544 : bd 2 300 y_543 := add_rg ty_543 b_340 kb_1 (by decide)
                                              refine lv_goto (tgt := 4) hx hb dX0_closeParts_248 (by decide) ?_
                                              have hl9 := lv_sub hl [0, 1, 2, 3, 4, 5, 6] (by rfl : lv_pick [(3, .int y_543), (6, .int y_536), (2, .int 1), (5, .int 0), (4, .int x_348), (0, .ref a0_), (1, .int x1_)] [0, 1, 2, 3, 4, 5, 6] = [(3, .int y_543), (6, .int y_536), (2, .int 1), (5, .int 0), (4, .int x_348), (0, .ref a0_), (1, .int x1_)])
                                              have g9 := g.sub (fx' := [(8, 6, q0_, .int 1201), (8, 8, q0_, .int x_332), (0, 4, a0_, .ref a_329), (0, 12, a0_, .int 0), (0, 10, a0_, .int x_538), (7, 6, q1_, .int x_527), (0, 8, a0_, .int y_346), (0, 3, a0_, .ref g76_0_3_a0_), (0, 0, a0_, .ref q0_), (0, 2, a0_, .ref q1_)]) [4, 5, 6, 0, 1, 2, 3, 7, 8, 9] rfl
                                              exact ih4  y_543 y_536 1 0 x_348 x_538 x_527 y_346 (bd_sub b_544 (by decide)) (bd_sub kb_1 (by decide)) (bd_sub kb_0 (by decide)) h_539 h_528 (bd_sub b_347 (by decide)) (by have h9_0 := b_347; unfold bd at h9_0; have h9_1 := b_525; unfold bd at h9_1; have h9_2 := b_542; unfold bd at h9_2; have h9_3 := b_544; unfold bd at h9_3; have h9_4 := bdT v4_4; unfold bd at h9_4; have h9_5 := bdT v4_6; unfold bd at h9_5; have h9_6 := bv4_2; unfold bd at h9_6; have h9_7 := bv4_3; unfold bd at h9_7; have h9_8 := bv4_5; unfold bd at h9_8; have h9_9 := bw4_0_10_a0_; unfold bd at h9_9; have h9_10 := bw4_0_8_a0_; unfold bd at h9_10; have h9_11 := bw4_7_6_q1_; unfold bd at h9_11; have h9_12 := h_528; unfold bd at h9_12; have h9_13 := h_539; unfold bd at h9_13; have h9_14 := kb_0; unfold bd at h9_14; have h9_15 := kb_1; unfold bd at h9_15; have h9_16 := kb_12; unfold bd at h9_16; have h9_17 := kb_205; unfold bd at h9_17; have h9_18 := kb_206; unfold bd at h9_18; have h9_19 := kb_300; unfold bd at h9_19; have h9_20 := kb_6; unfold bd at h9_20; have h9_21 := kb_7; unfold bd at h9_21; omega) _ _ _ _ g9  hl9
                                            · have fc_541 := nle_f c_541
                                              have b_545 : bd 13 2147483647 y_536 := ltR fc_541 kb_12 (bdT y_536) (by decide)
                                              refine lv_aload_n hx hb dX0_closeParts_227 rfl (lv_at hl 5 rfl) ?_
                                              refine g_getk (C := RX0) (T := TX0) (N := 14) hx hb hts (mc_ inX0) hown hK g rfl 0 (by decide) rfl (hts _ (List.mem_cons_of_mem _ t_373)) (fun _ h9 => h9) 8 rfl dX0_closeParts_228 ?_
                                              refine lv_bipush (v := 7) hx hb dX0_closeParts_231 (by decide) ?_
                                              refine lv_aload_n hx hb dX0_closeParts_233 rfl (lv_at hl 5 rfl) ?_
                                              refine g_getk (C := RX0) (T := TX0) (N := 14) hx hb hts (mc_ inX0) hown hK g rfl 4 (by decide) rfl (hts _ (List.mem_cons_of_mem _ t_377)) (fun _ h9 => h9) 6 rfl dX0_closeParts_234 ?_
                                              refine lv_aload_n hx hb dX0_closeParts_237 rfl (lv_at hl 5 rfl) ?_
                                              refine g_getk (C := RX0) (T := TX0) (N := 14) hx hb hts (mc_ inX0) hown hK g rfl 8 (by decide) rfl (hts _ (List.mem_cons_of_mem _ t_381)) (fun _ h9 => h9) 3 rfl dX0_closeParts_238 ?_
                                              refine g_iald hx hb hK g ma_329 ka_329 (by decide) rfl (in_bd b_347 (by decide)) dX0_closeParts_241 (fun x_546 bx_546 cx_546 => ?_)
                                              refine g_callv (va_runV (As := [.int 7, .int x_546]) (rest := []) ⟨hx, hb, hml, hown, hts⟩ (r_X8_fail_2 l dC dI L kd tys fr_537 H.size g.2.2.2.1 q0_ mq0_ kq0_ 7 (bd_sub kb_7 (by decide)) x_546 x_332 h_333 (g.fcts [5] rfl)) (cwV 2 hts (gV_ t_1215 t_1107 t_1108 t_184 t_1109) rfl rfl rfl (by decide +kernel) ⟨(Nat.le_of_ble_eq_true rfl), (Nat.le_of_ble_eq_true rfl)⟩) (pre3V g hK mq0_ kq0_ (by decide) (q := (RX8, TX8, 10)) rfl) rfl rfl hl.1 rfl (lv_room (Nat.le_of_ble_eq_true rfl)) dX0_closeParts_242 ⟨(Nat.le_of_ble_eq_true rfl), (Nat.le_of_ble_eq_true rfl)⟩) g hK (by decide) (by decide) (fx' := [(0, 12, a0_, .int 0), (0, 10, a0_, .int x_538), (7, 6, q1_, .int x_527), (0, 8, a0_, .int y_346), (8, 8, q0_, .int x_332), (0, 4, a0_, .ref a_329), (0, 3, a0_, .ref g76_0_3_a0_), (0, 0, a0_, .ref q0_), (0, 2, a0_, .ref q1_)]) rfl (fun fr_547 H locs hp hMr_547 g => ?_)
                                              have hF_548 := hp
                                              have g := g.more hF_548
                                              obtain ⟨y_549, ey_549⟩ : ∃ z : Int32, z = v4_3 + 1 := ⟨_, rfl⟩
                                              refine lv_iinc (v := y_549) (lv' := [(3, .int y_549), (6, .int y_536), (2, .int 1), (5, .int 0), (4, .int x_348), (0, .ref a0_), (1, .int x1_)]) hx hb dX0_closeParts_245 hl (k := 4) rfl (by rw [ey_549]; rfl) (by decide) rfl (fun ls hl => ?_)
                                              have ty_549 := add_bd ey_549 b_340 kb_1 (by decide)
                                              have b_550 : bd 2 300 y_549 := add_rg ty_549 b_340 kb_1 (by decide)
                                              refine lv_goto (tgt := 4) hx hb dX0_closeParts_248 (by decide) ?_
                                              have hl9 := lv_sub hl [0, 1, 2, 3, 4, 5, 6] (by rfl : lv_pick [(3, .int y_549), (6, .int y_536), (2, .int 1), (5, .int 0), (4, .int x_348), (0, .ref a0_), (1, .int x1_)] [0, 1, 2, 3, 4, 5, 6] = [(3, .int y_549), (6, .int y_536), (2, .int 1), (5, .int 0), (4, .int x_348), (0, .ref a0_), (1, .int x1_)])
                                              have g9 := g.sub (fx' := [(8, 6, q0_, .int 1201), (8, 8, q0_, .int x_332), (0, 4, a0_, .ref a_329), (0, 12, a0_, .int 0), (0, 10, a0_, .int x_538), (7, 6, q1_, .int x_527), (0, 8, a0_, .int y_346), (0, 3, a0_, .ref g76_0_3_a0_), (0, 0, a0_, .ref q0_), (0, 2, a0_, .ref q1_)]) [0, 5, 6, 1, 2, 3, 4, 7, 8, 9] rfl
                                              exact ih4  y_549 y_536 1 0 x_348 x_538 x_527 y_346 (bd_sub b_550 (by decide)) (bd_sub kb_1 (by decide)) (bd_sub kb_0 (by decide)) h_539 h_528 (bd_sub b_347 (by decide)) (by have h9_0 := b_347; unfold bd at h9_0; have h9_1 := b_525; unfold bd at h9_1; have h9_2 := b_545; unfold bd at h9_2; have h9_3 := b_550; unfold bd at h9_3; have h9_4 := bdT v4_4; unfold bd at h9_4; have h9_5 := bdT v4_6; unfold bd at h9_5; have h9_6 := bv4_2; unfold bd at h9_6; have h9_7 := bv4_3; unfold bd at h9_7; have h9_8 := bv4_5; unfold bd at h9_8; have h9_9 := bw4_0_10_a0_; unfold bd at h9_9; have h9_10 := bw4_0_8_a0_; unfold bd at h9_10; have h9_11 := bw4_7_6_q1_; unfold bd at h9_11; have h9_12 := h_528; unfold bd at h9_12; have h9_13 := h_539; unfold bd at h9_13; have h9_14 := kb_0; unfold bd at h9_14; have h9_15 := kb_1; unfold bd at h9_15; have h9_16 := kb_12; unfold bd at h9_16; have h9_17 := kb_205; unfold bd at h9_17; have h9_18 := kb_206; unfold bd at h9_18; have h9_19 := kb_300; unfold bd at h9_19; have h9_20 := kb_6; unfold bd at h9_20; have h9_21 := kb_7; unfold bd at h9_21; omega) _ _ _ _ g9  hl9
                                          · have fc_524 := eq_f c_524
                                            have b_551 : bd 206 206 x_348 := eqX fc_524 b_482 kb_206 (by decide)
                                            refine lv_aload_n hx hb dX0_closeParts_152 rfl (lv_at hl 5 rfl) ?_
                                            refine g_getk (C := RX0) (T := TX0) (N := 14) hx hb hts (mc_ inX0) hown hK g rfl 2 (by decide) rfl (hts _ (List.mem_cons_of_mem _ t_375)) (fun _ h9 => h9) 9 rfl dX0_closeParts_153 ?_
                                            refine lv_bipush (v := 8) hx hb dX0_closeParts_156 (by decide) ?_
                                            refine lv_iconst (v := 0) hx hb dX0_closeParts_158 (by decide) ?_
                                            refine g_callv (va_runV (As := [.int 8, .int 0]) (rest := []) ⟨hx, hb, hml, hown, hts⟩ (r_X7_emit l dC dI L kd tys fr_490 H.size g.2.2.2.1 q1_ mq1_ kq1_ 8 0) (cwV 2 hts (gV_ t_1203 t_1204 t_1205 t_191 t_1206) rfl rfl rfl (by decide +kernel) ⟨(Nat.le_of_ble_eq_true rfl), (Nat.le_of_ble_eq_true rfl)⟩) (pre3V g hK mq1_ kq1_ (by decide) (q := (RX7, TX7, 19)) rfl) rfl rfl hl.1 rfl (lv_room (Nat.le_of_ble_eq_true rfl)) dX0_closeParts_159 ⟨(Nat.le_of_ble_eq_true rfl), (Nat.le_of_ble_eq_true rfl)⟩) g hK (by decide) (by decide) (fx' := [(0, 10, a0_, .int x_491), (0, 8, a0_, .int y_346), (8, 6, q0_, .int 1201), (8, 8, q0_, .int x_332), (0, 4, a0_, .ref a_329), (0, 12, a0_, .int 0), (0, 3, a0_, .ref g76_0_3_a0_), (0, 0, a0_, .ref q0_), (0, 2, a0_, .ref q1_)]) rfl (fun fr_552 H locs hp hMr_552 g => ?_)
                                            obtain ⟨x_553, h_554, hF_555⟩ := hp
                                            have g := g.more hF_555
                                            refine lv_aload_n hx hb dX0_closeParts_162 rfl (lv_at hl 5 rfl) ?_
                                            refine g_getk (C := RX0) (T := TX0) (N := 14) hx hb hts (mc_ inX0) hown hK g rfl 2 (by decide) rfl (hts _ (List.mem_cons_of_mem _ t_375)) (fun _ h9 => h9) 9 rfl dX0_closeParts_163 ?_
                                            refine lv_aload_n hx hb dX0_closeParts_166 rfl (lv_at hl 5 rfl) ?_
                                            refine g_getr (K := 112) (C := RX0) (T := TX0) (N := 14) hx hb hts (mc_ inX0) hown hK g ma0_ ka0_ (by decide) rfl 5 (by decide) rfl (hts _ (List.mem_cons_of_mem _ t_378)) (fun _ h9 => h9) rfl dX0_closeParts_167 (fun a_556 ma_556 ka_556 g => ?_)
                                            refine lv_aload_n hx hb dX0_closeParts_170 rfl (lv_at hl 5 rfl) ?_
                                            refine g_getk (C := RX0) (T := TX0) (N := 14) hx hb hts (mc_ inX0) hown hK g rfl 8 (by decide) rfl (hts _ (List.mem_cons_of_mem _ t_381)) (fun _ h9 => h9) 3 rfl dX0_closeParts_171 ?_
                                            refine g_iald hx hb hK g ma_556 ka_556 (by decide) rfl (in_bd b_347 (by decide)) dX0_closeParts_174 (fun x_557 bx_557 cx_557 => ?_)
                                            refine g_callv (va_runV (As := [.int x_557]) (rest := []) ⟨hx, hb, hml, hown, hts⟩ (r_X7_leadHere l dC dI L kd tys fr_552 H.size g.2.2.2.1 q1_ mq1_ kq1_ x_557) (cwV 1 hts (gV_ t_1207 t_1208 t_1209 t_191 t_1210) rfl rfl rfl (by decide +kernel) ⟨(Nat.le_of_ble_eq_true rfl), (Nat.le_of_ble_eq_true rfl)⟩) (pre3V g hK mq1_ kq1_ (by decide) (q := (RX7, TX7, 19)) rfl) rfl rfl hl.1 rfl (lv_room (Nat.le_of_ble_eq_true rfl)) dX0_closeParts_175 ⟨(Nat.le_of_ble_eq_true rfl), (Nat.le_of_ble_eq_true rfl)⟩) g hK (by decide) (by decide) (fx' := [(0, 5, a0_, .ref a_556), (7, 6, q1_, .int x_553), (0, 10, a0_, .int x_491), (0, 8, a0_, .int y_346), (8, 6, q0_, .int 1201), (8, 8, q0_, .int x_332), (0, 4, a0_, .ref a_329), (0, 12, a0_, .int 0), (0, 3, a0_, .ref g76_0_3_a0_), (0, 0, a0_, .ref q0_), (0, 2, a0_, .ref q1_)]) rfl (fun fr_558 H locs hp hMr_558 g => ?_)
                                            refine lv_goto (tgt := 191) hx hb dX0_closeParts_178 (by decide) ?_
                                            refine lv_iconst (v := 1) hx hb dX0_closeParts_191 (by decide) ?_
                                            refine lv_iload hx hb dX0_closeParts_192 (lv_at hl 2 rfl) ?_
                                            refine lv_if_eq (tgt := 202) hx hb dX0_closeParts_194 (by decide) (fun c_ => ?_) (fun c_ => absurd (by decide) c_)
                                            refine lv_iload hx hb dX0_closeParts_202 (lv_at hl 0 rfl) ?_
                                            refine lv_aload_n hx hb dX0_closeParts_204 rfl (lv_at hl 5 rfl) ?_
                                            refine g_calli (va_runV (As := []) (rest := [.int r_490, .int 1]) ⟨hx, hb, hml, hown, hts⟩ (r_X0_takeHeight l dC dI L kd tys fr_558 H.size g.2.2.2.1 a0_ ma0_ ka0_) (cwV 0 hts (gV_ t_1199 t_1201 t_16 t_190 t_1202) rfl rfl rfl (by decide +kernel) ⟨(Nat.le_of_ble_eq_true rfl), (Nat.le_of_ble_eq_true rfl)⟩) (pre3V g hK ma0_ ka0_ (by decide) (q := (RX0, TX0, 14)) rfl) rfl rfl hl.1 rfl (lv_room (Nat.le_of_ble_eq_true rfl)) dX0_closeParts_205 ⟨(Nat.le_of_ble_eq_true rfl), (Nat.le_of_ble_eq_true rfl)⟩) g hK (by decide) (by decide) (fx' := [(0, 5, a0_, .ref a_556), (7, 6, q1_, .int x_553), (0, 8, a0_, .int y_346), (8, 6, q0_, .int 1201), (8, 8, q0_, .int x_332), (0, 4, a0_, .ref a_329), (0, 12, a0_, .int 0), (0, 3, a0_, .ref g76_0_3_a0_), (0, 0, a0_, .ref q0_), (0, 2, a0_, .ref q1_)]) rfl (fun r_559 fr_559 H locs hp hMr_559 g => ?_)
                                            obtain ⟨x_560, h_561, hF_562⟩ := hp
                                            have g := g.more hF_562
                                            refine va_mmax hx hb (hml.trans hl.1.symm) hown (hts _ (List.mem_cons_of_mem _ t_1194)) (hts _ (List.mem_cons_of_mem _ t_1041)) (hts _ (List.mem_cons_of_mem _ t_204)) (hts _ (List.mem_cons_of_mem _ t_1042)) (Nat.le_of_ble_eq_true rfl) (Nat.le_of_ble_eq_true rfl) (Nat.le_of_ble_eq_true rfl) (Nat.le_of_ble_eq_true rfl) dX0_closeParts_208 ?_
                                            refine lv_topi (fun y_563 ey_563 => ?_)
                                            have ty_563 : y_563.toInt = max r_490.toInt r_559.toInt := by rw [ey_563]; exact mmax_ok _ _
                                            have b_564 : bd (-2147483648) 2147483647 y_563 := max_rg ty_563 (bdT r_490) (bdT r_559) (by decide)
                                            refine lv_iadd hx hb dX0_closeParts_211 ?_
                                            refine lv_topi (fun y_565 ey_565 => ?_)
                                            refine lv_istore (lv' := [(6, .int y_565), (2, .int 1), (5, .int 0), (4, .int x_348), (3, .int v4_3), (0, .ref a0_), (1, .int x1_)]) hx hb dX0_closeParts_212 hl (by decide) rfl (fun ls hl => ?_)
                                            refine lv_aload_n hx hb dX0_closeParts_214 rfl (lv_at hl 5 rfl) ?_
                                            refine lv_iload hx hb dX0_closeParts_215 (lv_at hl 0 rfl) ?_
                                            refine g_callv (va_runV (As := [.int y_565]) (rest := []) ⟨hx, hb, hml, hown, hts⟩ (r_X0_addWhole l dC dI L kd tys fr_559 H.size g.2.2.2.1 a0_ ma0_ ka0_ y_565) (cwV 1 hts (gV_ t_1211 t_1213 t_17 t_190 t_1214) rfl rfl rfl (by decide +kernel) ⟨(Nat.le_of_ble_eq_true rfl), (Nat.le_of_ble_eq_true rfl)⟩) (pre3V g hK ma0_ ka0_ (by decide) (q := (RX0, TX0, 14)) rfl) rfl rfl hl.1 rfl (lv_room (Nat.le_of_ble_eq_true rfl)) dX0_closeParts_217 ⟨(Nat.le_of_ble_eq_true rfl), (Nat.le_of_ble_eq_true rfl)⟩) g hK (by decide) (by decide) (fx' := [(0, 5, a0_, .ref a_556), (7, 6, q1_, .int x_553), (0, 8, a0_, .int y_346), (8, 6, q0_, .int 1201), (8, 8, q0_, .int x_332), (0, 4, a0_, .ref a_329), (0, 3, a0_, .ref g76_0_3_a0_), (0, 0, a0_, .ref q0_), (0, 2, a0_, .ref q1_)]) rfl (fun fr_566 H locs hp hMr_566 g => ?_)
                                            obtain ⟨x_567, h_568, hF_569⟩ := hp
                                            have g := g.more hF_569
                                            refine lv_iload hx hb dX0_closeParts_220 (lv_at hl 0 rfl) ?_
                                            refine lv_bipush (v := 12) hx hb dX0_closeParts_222 (by decide) ?_
                                            refine lv_icmp_le (tgt := 245) hx hb dX0_closeParts_224 (by decide) (fun c_570 => ?_) (fun c_570 => ?_)
                                            · have fc_570 := le_f c_570
                                              have b_571 : bd (-2147483648) 12 y_565 := leL fc_570 (bdT y_565) kb_12 (by decide)
                                              obtain ⟨y_572, ey_572⟩ : ∃ z : Int32, z = v4_3 + 1 := ⟨_, rfl⟩
                                              refine lv_iinc (v := y_572) (lv' := [(3, .int y_572), (6, .int y_565), (2, .int 1), (5, .int 0), (4, .int x_348), (0, .ref a0_), (1, .int x1_)]) hx hb dX0_closeParts_245 hl (k := 4) rfl (by rw [ey_572]; rfl) (by decide) rfl (fun ls hl => ?_)
                                              have ty_572 := add_bd ey_572 b_340 kb_1 (by decide)
                                              have b_573 : bd 2 300 y_572 := add_rg ty_572 b_340 kb_1 (by decide)
                                              refine lv_goto (tgt := 4) hx hb dX0_closeParts_248 (by decide) ?_
                                              have hl9 := lv_sub hl [0, 1, 2, 3, 4, 5, 6] (by rfl : lv_pick [(3, .int y_572), (6, .int y_565), (2, .int 1), (5, .int 0), (4, .int x_348), (0, .ref a0_), (1, .int x1_)] [0, 1, 2, 3, 4, 5, 6] = [(3, .int y_572), (6, .int y_565), (2, .int 1), (5, .int 0), (4, .int x_348), (0, .ref a0_), (1, .int x1_)])
                                              have g9 := g.sub (fx' := [(8, 6, q0_, .int 1201), (8, 8, q0_, .int x_332), (0, 4, a0_, .ref a_329), (0, 12, a0_, .int 0), (0, 10, a0_, .int x_567), (7, 6, q1_, .int x_553), (0, 8, a0_, .int y_346), (0, 3, a0_, .ref g76_0_3_a0_), (0, 0, a0_, .ref q0_), (0, 2, a0_, .ref q1_)]) [5, 6, 7, 0, 1, 3, 4, 8, 9, 10] rfl
                                              exact ih4  y_572 y_565 1 0 x_348 x_567 x_553 y_346 (bd_sub b_573 (by decide)) (bd_sub kb_1 (by decide)) (bd_sub kb_0 (by decide)) h_568 h_554 (bd_sub b_347 (by decide)) (by have h9_0 := b_347; unfold bd at h9_0; have h9_1 := b_551; unfold bd at h9_1; have h9_2 := b_571; unfold bd at h9_2; have h9_3 := b_573; unfold bd at h9_3; have h9_4 := bdT v4_4; unfold bd at h9_4; have h9_5 := bdT v4_6; unfold bd at h9_5; have h9_6 := bv4_2; unfold bd at h9_6; have h9_7 := bv4_3; unfold bd at h9_7; have h9_8 := bv4_5; unfold bd at h9_8; have h9_9 := bw4_0_10_a0_; unfold bd at h9_9; have h9_10 := bw4_0_8_a0_; unfold bd at h9_10; have h9_11 := bw4_7_6_q1_; unfold bd at h9_11; have h9_12 := h_554; unfold bd at h9_12; have h9_13 := h_568; unfold bd at h9_13; have h9_14 := kb_0; unfold bd at h9_14; have h9_15 := kb_1; unfold bd at h9_15; have h9_16 := kb_12; unfold bd at h9_16; have h9_17 := kb_205; unfold bd at h9_17; have h9_18 := kb_206; unfold bd at h9_18; have h9_19 := kb_300; unfold bd at h9_19; have h9_20 := kb_6; unfold bd at h9_20; have h9_21 := kb_7; unfold bd at h9_21; omega) _ _ _ _ g9  hl9
                                            · have fc_570 := nle_f c_570
                                              have b_574 : bd 13 2147483647 y_565 := ltR fc_570 kb_12 (bdT y_565) (by decide)
                                              refine lv_aload_n hx hb dX0_closeParts_227 rfl (lv_at hl 5 rfl) ?_
                                              refine g_getk (C := RX0) (T := TX0) (N := 14) hx hb hts (mc_ inX0) hown hK g rfl 0 (by decide) rfl (hts _ (List.mem_cons_of_mem _ t_373)) (fun _ h9 => h9) 9 rfl dX0_closeParts_228 ?_
                                              refine lv_bipush (v := 7) hx hb dX0_closeParts_231 (by decide) ?_
                                              refine lv_aload_n hx hb dX0_closeParts_233 rfl (lv_at hl 5 rfl) ?_
                                              refine g_getk (C := RX0) (T := TX0) (N := 14) hx hb hts (mc_ inX0) hown hK g rfl 4 (by decide) rfl (hts _ (List.mem_cons_of_mem _ t_377)) (fun _ h9 => h9) 7 rfl dX0_closeParts_234 ?_
                                              refine lv_aload_n hx hb dX0_closeParts_237 rfl (lv_at hl 5 rfl) ?_
                                              refine g_getk (C := RX0) (T := TX0) (N := 14) hx hb hts (mc_ inX0) hown hK g rfl 8 (by decide) rfl (hts _ (List.mem_cons_of_mem _ t_381)) (fun _ h9 => h9) 4 rfl dX0_closeParts_238 ?_
                                              refine g_iald hx hb hK g ma_329 ka_329 (by decide) rfl (in_bd b_347 (by decide)) dX0_closeParts_241 (fun x_575 bx_575 cx_575 => ?_)
                                              refine g_callv (va_runV (As := [.int 7, .int x_575]) (rest := []) ⟨hx, hb, hml, hown, hts⟩ (r_X8_fail_2 l dC dI L kd tys fr_566 H.size g.2.2.2.1 q0_ mq0_ kq0_ 7 (bd_sub kb_7 (by decide)) x_575 x_332 h_333 (g.fcts [6] rfl)) (cwV 2 hts (gV_ t_1215 t_1107 t_1108 t_184 t_1109) rfl rfl rfl (by decide +kernel) ⟨(Nat.le_of_ble_eq_true rfl), (Nat.le_of_ble_eq_true rfl)⟩) (pre3V g hK mq0_ kq0_ (by decide) (q := (RX8, TX8, 10)) rfl) rfl rfl hl.1 rfl (lv_room (Nat.le_of_ble_eq_true rfl)) dX0_closeParts_242 ⟨(Nat.le_of_ble_eq_true rfl), (Nat.le_of_ble_eq_true rfl)⟩) g hK (by decide) (by decide) (fx' := [(0, 12, a0_, .int 0), (0, 10, a0_, .int x_567), (0, 5, a0_, .ref a_556), (7, 6, q1_, .int x_553), (0, 8, a0_, .int y_346), (8, 8, q0_, .int x_332), (0, 4, a0_, .ref a_329), (0, 3, a0_, .ref g76_0_3_a0_), (0, 0, a0_, .ref q0_), (0, 2, a0_, .ref q1_)]) rfl (fun fr_576 H locs hp hMr_576 g => ?_)
                                              have hF_577 := hp
                                              have g := g.more hF_577
                                              obtain ⟨y_578, ey_578⟩ : ∃ z : Int32, z = v4_3 + 1 := ⟨_, rfl⟩
                                              refine lv_iinc (v := y_578) (lv' := [(3, .int y_578), (6, .int y_565), (2, .int 1), (5, .int 0), (4, .int x_348), (0, .ref a0_), (1, .int x1_)]) hx hb dX0_closeParts_245 hl (k := 4) rfl (by rw [ey_578]; rfl) (by decide) rfl (fun ls hl => ?_)
                                              have ty_578 := add_bd ey_578 b_340 kb_1 (by decide)
                                              have b_579 : bd 2 300 y_578 := add_rg ty_578 b_340 kb_1 (by decide)
                                              refine lv_goto (tgt := 4) hx hb dX0_closeParts_248 (by decide) ?_
                                              have hl9 := lv_sub hl [0, 1, 2, 3, 4, 5, 6] (by rfl : lv_pick [(3, .int y_578), (6, .int y_565), (2, .int 1), (5, .int 0), (4, .int x_348), (0, .ref a0_), (1, .int x1_)] [0, 1, 2, 3, 4, 5, 6] = [(3, .int y_578), (6, .int y_565), (2, .int 1), (5, .int 0), (4, .int x_348), (0, .ref a0_), (1, .int x1_)])
                                              have g9 := g.sub (fx' := [(8, 6, q0_, .int 1201), (8, 8, q0_, .int x_332), (0, 4, a0_, .ref a_329), (0, 12, a0_, .int 0), (0, 10, a0_, .int x_567), (7, 6, q1_, .int x_553), (0, 8, a0_, .int y_346), (0, 3, a0_, .ref g76_0_3_a0_), (0, 0, a0_, .ref q0_), (0, 2, a0_, .ref q1_)]) [0, 6, 7, 1, 2, 4, 5, 8, 9, 10] rfl
                                              exact ih4  y_578 y_565 1 0 x_348 x_567 x_553 y_346 (bd_sub b_579 (by decide)) (bd_sub kb_1 (by decide)) (bd_sub kb_0 (by decide)) h_568 h_554 (bd_sub b_347 (by decide)) (by have h9_0 := b_347; unfold bd at h9_0; have h9_1 := b_551; unfold bd at h9_1; have h9_2 := b_574; unfold bd at h9_2; have h9_3 := b_579; unfold bd at h9_3; have h9_4 := bdT v4_4; unfold bd at h9_4; have h9_5 := bdT v4_6; unfold bd at h9_5; have h9_6 := bv4_2; unfold bd at h9_6; have h9_7 := bv4_3; unfold bd at h9_7; have h9_8 := bv4_5; unfold bd at h9_8; have h9_9 := bw4_0_10_a0_; unfold bd at h9_9; have h9_10 := bw4_0_8_a0_; unfold bd at h9_10; have h9_11 := bw4_7_6_q1_; unfold bd at h9_11; have h9_12 := h_554; unfold bd at h9_12; have h9_13 := h_568; unfold bd at h9_13; have h9_14 := kb_0; unfold bd at h9_14; have h9_15 := kb_1; unfold bd at h9_15; have h9_16 := kb_12; unfold bd at h9_16; have h9_17 := kb_205; unfold bd at h9_17; have h9_18 := kb_206; unfold bd at h9_18; have h9_19 := kb_300; unfold bd at h9_19; have h9_20 := kb_6; unfold bd at h9_20; have h9_21 := kb_7; unfold bd at h9_21; omega) _ _ _ _ g9  hl9
                                  · have fc_381 := eq_f c_381
                                    have b_580 : bd 7 7 x_348 := eqX fc_381 (bdT x_348) kb_7 (by decide)
                                    refine lv_iconst (v := 1) hx hb dX0_closeParts_49 (by decide) ?_
                                    refine lv_goto (tgt := 54) hx hb dX0_closeParts_50 (by decide) ?_
                                    refine lv_istore (lv' := [(5, .int 1), (4, .int x_348), (3, .int v4_3), (6, .int v4_6), (2, .int v4_2), (0, .ref a0_), (1, .int x1_)]) hx hb dX0_closeParts_54 hl (by decide) rfl (fun ls hl => ?_)
                                    refine lv_iload hx hb dX0_closeParts_56 (lv_at hl 0 rfl) ?_
                                    refine lv_if_ne (tgt := 70) hx hb dX0_closeParts_58 (by decide) (fun c_ => ?_) (fun c_ => absurd c_ (by decide))
                                    refine lv_iconst (v := 1) hx hb dX0_closeParts_70 (by decide) ?_
                                    refine lv_goto (tgt := 75) hx hb dX0_closeParts_71 (by decide) ?_
                                    refine lv_istore_n (lv' := [(2, .int 1), (5, .int 1), (4, .int x_348), (3, .int v4_3), (6, .int v4_6), (0, .ref a0_), (1, .int x1_)]) hx hb dX0_closeParts_75 rfl hl (by decide) rfl (fun ls hl => ?_)
                                    refine lv_iload_n hx hb dX0_closeParts_76 rfl (lv_at hl 0 rfl) ?_
                                    refine lv_if_eq (tgt := 245) hx hb dX0_closeParts_77 (by decide) (fun c_ => absurd c_ (by decide)) (fun c_ => ?_)
                                    refine lv_aload_n hx hb dX0_closeParts_80 rfl (lv_at hl 5 rfl) ?_
                                    refine lv_dup hx hb dX0_closeParts_81 rfl ?_
                                    refine g_getk (C := RX0) (T := TX0) (N := 14) hx hb hts (mc_ inX0) hown hK g rfl 8 (by decide) rfl (hts _ (List.mem_cons_of_mem _ t_381)) (fun _ h9 => h9) 6 rfl dX0_closeParts_82 ?_
                                    refine lv_iconst (v := 1) hx hb dX0_closeParts_85 (by decide) ?_
                                    refine lv_isub hx hb dX0_closeParts_86 ?_
                                    refine lv_topi (fun y_581 ey_581 => ?_)
                                    obtain rfl : y_346 = y_581 := ey_346.trans ey_581.symm
                                    refine g_put (C := RX0) (T := TX0) (N := 14) hx hb hts (mc_ inX0) tyX0 tyX0_ok nmX0 hown hK g ma0_ ka0_ (by decide) rfl 8 (by decide) (hts _ (List.mem_cons_of_mem _ t_381)) (fun _ h9 => h9) rfl rfl (okV_i (bd_sub b_347 (by decide))) rfl rfl (by decide) (Or.inr (Or.inl (by decide))) (fx' := [(8, 6, q0_, .int 1201), (8, 8, q0_, .int x_332), (0, 4, a0_, .ref a_329), (0, 12, a0_, .int 0), (0, 10, a0_, .int w4_0_10_a0_), (7, 6, q1_, .int w4_7_6_q1_), (0, 3, a0_, .ref g76_0_3_a0_), (0, 0, a0_, .ref q0_), (0, 2, a0_, .ref q1_)]) rfl dX0_closeParts_87 (fun f H locs hM_582 g => ?_)
                                    refine lv_aload_n hx hb dX0_closeParts_90 rfl (lv_at hl 5 rfl) ?_
                                    refine g_calli (va_runV (As := []) (rest := []) ⟨hx, hb, hml, hown, hts⟩ (r_X0_takeHeight l dC dI L kd tys f H.size g.2.2.2.1 a0_ ma0_ ka0_) (cwV 0 hts (gV_ t_1199 t_1201 t_16 t_190 t_1202) rfl rfl rfl (by decide +kernel) ⟨(Nat.le_of_ble_eq_true rfl), (Nat.le_of_ble_eq_true rfl)⟩) (pre3V g hK ma0_ ka0_ (by decide) (q := (RX0, TX0, 14)) rfl) rfl rfl hl.1 rfl (lv_room (Nat.le_of_ble_eq_true rfl)) dX0_closeParts_91 ⟨(Nat.le_of_ble_eq_true rfl), (Nat.le_of_ble_eq_true rfl)⟩) g hK (by decide) (by decide) (fx' := [(0, 8, a0_, .int y_346), (8, 6, q0_, .int 1201), (8, 8, q0_, .int x_332), (0, 4, a0_, .ref a_329), (0, 12, a0_, .int 0), (7, 6, q1_, .int w4_7_6_q1_), (0, 3, a0_, .ref g76_0_3_a0_), (0, 0, a0_, .ref q0_), (0, 2, a0_, .ref q1_)]) rfl (fun r_583 fr_583 H locs hp hMr_583 g => ?_)
                                    obtain ⟨x_584, h_585, hF_586⟩ := hp
                                    have g := g.more hF_586
                                    refine lv_istore (lv' := [(6, .int r_583), (2, .int 1), (5, .int 1), (4, .int x_348), (3, .int v4_3), (0, .ref a0_), (1, .int x1_)]) hx hb dX0_closeParts_94 hl (by decide) rfl (fun ls hl => ?_)
                                    refine lv_iload hx hb dX0_closeParts_96 (lv_at hl 2 rfl) ?_
                                    refine lv_if_eq (tgt := 136) hx hb dX0_closeParts_98 (by decide) (fun c_ => absurd c_ (by decide)) (fun c_ => ?_)
                                    refine lv_aload_n hx hb dX0_closeParts_101 rfl (lv_at hl 5 rfl) ?_
                                    refine lv_dup hx hb dX0_closeParts_102 rfl ?_
                                    refine g_geti (C := RX0) (T := TX0) (N := 14) hx hb hts (mc_ inX0) hown hK g ma0_ ka0_ (by decide) rfl 11 (by decide) rfl (hts _ (List.mem_cons_of_mem _ t_384)) (fun _ h9 => h9) rfl dX0_closeParts_103 (fun x_587 bx_587 g => ?_)
                                    refine lv_iconst (v := 1) hx hb dX0_closeParts_106 (by decide) ?_
                                    refine lv_isub hx hb dX0_closeParts_107 ?_
                                    refine lv_topi (fun y_588 ey_588 => ?_)
                                    refine g_put (C := RX0) (T := TX0) (N := 14) hx hb hts (mc_ inX0) tyX0 tyX0_ok nmX0 hown hK g ma0_ ka0_ (by decide) rfl 11 (by decide) (hts _ (List.mem_cons_of_mem _ t_384)) (fun _ h9 => h9) rfl rfl (okV_i (bdT y_588)) rfl rfl (by decide) (Or.inr (Or.inl (by decide))) (fx' := [(0, 10, a0_, .int x_584), (0, 8, a0_, .int y_346), (8, 6, q0_, .int 1201), (8, 8, q0_, .int x_332), (0, 4, a0_, .ref a_329), (0, 12, a0_, .int 0), (7, 6, q1_, .int w4_7_6_q1_), (0, 3, a0_, .ref g76_0_3_a0_), (0, 0, a0_, .ref q0_), (0, 2, a0_, .ref q1_)]) rfl dX0_closeParts_108 (fun f H locs hM_589 g => ?_)
                                    refine lv_aload_n hx hb dX0_closeParts_111 rfl (lv_at hl 5 rfl) ?_
                                    refine g_getk (C := RX0) (T := TX0) (N := 14) hx hb hts (mc_ inX0) hown hK g rfl 2 (by decide) rfl (hts _ (List.mem_cons_of_mem _ t_375)) (fun _ h9 => h9) 10 rfl dX0_closeParts_112 ?_
                                    refine lv_iload hx hb dX0_closeParts_115 (lv_at hl 3 rfl) ?_
                                    refine lv_bipush (v := 6) hx hb dX0_closeParts_117 (by decide) ?_
                                    refine lv_icmp_ne (tgt := 127) hx hb dX0_closeParts_119 (by decide) (fun c_590 => ?_) (fun c_590 => ?_)
                                    · have fc_590 := neq_f c_590
                                      refine lv_bipush (v := 7) hx hb dX0_closeParts_127 (by decide) ?_
                                      refine lv_iconst (v := 0) hx hb dX0_closeParts_129 (by decide) ?_
                                      refine g_callv (va_runV (As := [.int 7, .int 0]) (rest := []) ⟨hx, hb, hml, hown, hts⟩ (r_X7_emit l dC dI L kd tys f H.size g.2.2.2.1 q1_ mq1_ kq1_ 7 0) (cwV 2 hts (gV_ t_1203 t_1204 t_1205 t_191 t_1206) rfl rfl rfl (by decide +kernel) ⟨(Nat.le_of_ble_eq_true rfl), (Nat.le_of_ble_eq_true rfl)⟩) (pre3V g hK mq1_ kq1_ (by decide) (q := (RX7, TX7, 19)) rfl) rfl rfl hl.1 rfl (lv_room (Nat.le_of_ble_eq_true rfl)) dX0_closeParts_130 ⟨(Nat.le_of_ble_eq_true rfl), (Nat.le_of_ble_eq_true rfl)⟩) g hK (by decide) (by decide) (fx' := [(0, 11, a0_, .int y_588), (0, 10, a0_, .int x_584), (0, 8, a0_, .int y_346), (8, 6, q0_, .int 1201), (8, 8, q0_, .int x_332), (0, 4, a0_, .ref a_329), (0, 12, a0_, .int 0), (0, 3, a0_, .ref g76_0_3_a0_), (0, 0, a0_, .ref q0_), (0, 2, a0_, .ref q1_)]) rfl (fun fr_591 H locs hp hMr_591 g => ?_)
                                      obtain ⟨x_592, h_593, hF_594⟩ := hp
                                      have g := g.more hF_594
                                      refine lv_goto (tgt := 191) hx hb dX0_closeParts_133 (by decide) ?_
                                      refine lv_iconst (v := 1) hx hb dX0_closeParts_191 (by decide) ?_
                                      refine lv_iload hx hb dX0_closeParts_192 (lv_at hl 2 rfl) ?_
                                      refine lv_if_eq (tgt := 202) hx hb dX0_closeParts_194 (by decide) (fun c_ => absurd c_ (by decide)) (fun c_ => ?_)
                                      refine lv_iload hx hb dX0_closeParts_197 (lv_at hl 0 rfl) ?_
                                      refine lv_goto (tgt := 211) hx hb dX0_closeParts_199 (by decide) ?_
                                      refine lv_iadd hx hb dX0_closeParts_211 ?_
                                      refine lv_topi (fun y_595 ey_595 => ?_)
                                      refine lv_istore (lv' := [(6, .int y_595), (2, .int 1), (5, .int 1), (4, .int x_348), (3, .int v4_3), (0, .ref a0_), (1, .int x1_)]) hx hb dX0_closeParts_212 hl (by decide) rfl (fun ls hl => ?_)
                                      refine lv_aload_n hx hb dX0_closeParts_214 rfl (lv_at hl 5 rfl) ?_
                                      refine lv_iload hx hb dX0_closeParts_215 (lv_at hl 0 rfl) ?_
                                      refine g_callv (va_runV (As := [.int y_595]) (rest := []) ⟨hx, hb, hml, hown, hts⟩ (r_X0_addWhole l dC dI L kd tys fr_591 H.size g.2.2.2.1 a0_ ma0_ ka0_ y_595) (cwV 1 hts (gV_ t_1211 t_1213 t_17 t_190 t_1214) rfl rfl rfl (by decide +kernel) ⟨(Nat.le_of_ble_eq_true rfl), (Nat.le_of_ble_eq_true rfl)⟩) (pre3V g hK ma0_ ka0_ (by decide) (q := (RX0, TX0, 14)) rfl) rfl rfl hl.1 rfl (lv_room (Nat.le_of_ble_eq_true rfl)) dX0_closeParts_217 ⟨(Nat.le_of_ble_eq_true rfl), (Nat.le_of_ble_eq_true rfl)⟩) g hK (by decide) (by decide) (fx' := [(7, 6, q1_, .int x_592), (0, 11, a0_, .int y_588), (0, 8, a0_, .int y_346), (8, 6, q0_, .int 1201), (8, 8, q0_, .int x_332), (0, 4, a0_, .ref a_329), (0, 3, a0_, .ref g76_0_3_a0_), (0, 0, a0_, .ref q0_), (0, 2, a0_, .ref q1_)]) rfl (fun fr_596 H locs hp hMr_596 g => ?_)
                                      obtain ⟨x_597, h_598, hF_599⟩ := hp
                                      have g := g.more hF_599
                                      refine lv_iload hx hb dX0_closeParts_220 (lv_at hl 0 rfl) ?_
                                      refine lv_bipush (v := 12) hx hb dX0_closeParts_222 (by decide) ?_
                                      refine lv_icmp_le (tgt := 245) hx hb dX0_closeParts_224 (by decide) (fun c_600 => ?_) (fun c_600 => ?_)
                                      · have fc_600 := le_f c_600
                                        have b_601 : bd (-2147483648) 12 y_595 := leL fc_600 (bdT y_595) kb_12 (by decide)
                                        obtain ⟨y_602, ey_602⟩ : ∃ z : Int32, z = v4_3 + 1 := ⟨_, rfl⟩
                                        refine lv_iinc (v := y_602) (lv' := [(3, .int y_602), (6, .int y_595), (2, .int 1), (5, .int 1), (4, .int x_348), (0, .ref a0_), (1, .int x1_)]) hx hb dX0_closeParts_245 hl (k := 4) rfl (by rw [ey_602]; rfl) (by decide) rfl (fun ls hl => ?_)
                                        have ty_602 := add_bd ey_602 b_340 kb_1 (by decide)
                                        have b_603 : bd 2 300 y_602 := add_rg ty_602 b_340 kb_1 (by decide)
                                        refine lv_goto (tgt := 4) hx hb dX0_closeParts_248 (by decide) ?_
                                        have hl9 := lv_sub hl [0, 1, 2, 3, 4, 5, 6] (by rfl : lv_pick [(3, .int y_602), (6, .int y_595), (2, .int 1), (5, .int 1), (4, .int x_348), (0, .ref a0_), (1, .int x1_)] [0, 1, 2, 3, 4, 5, 6] = [(3, .int y_602), (6, .int y_595), (2, .int 1), (5, .int 1), (4, .int x_348), (0, .ref a0_), (1, .int x1_)])
                                        have g9 := g.sub (fx' := [(8, 6, q0_, .int 1201), (8, 8, q0_, .int x_332), (0, 4, a0_, .ref a_329), (0, 12, a0_, .int 0), (0, 10, a0_, .int x_597), (7, 6, q1_, .int x_592), (0, 8, a0_, .int y_346), (0, 3, a0_, .ref g76_0_3_a0_), (0, 0, a0_, .ref q0_), (0, 2, a0_, .ref q1_)]) [5, 6, 7, 0, 1, 2, 4, 8, 9, 10] rfl
                                        exact ih4  y_602 y_595 1 1 x_348 x_597 x_592 y_346 (bd_sub b_603 (by decide)) (bd_sub kb_1 (by decide)) (bd_sub kb_1 (by decide)) h_598 h_593 (bd_sub b_347 (by decide)) (by have h9_0 := b_347; unfold bd at h9_0; have h9_1 := b_580; unfold bd at h9_1; have h9_2 := b_601; unfold bd at h9_2; have h9_3 := b_603; unfold bd at h9_3; have h9_4 := bdT v4_4; unfold bd at h9_4; have h9_5 := bdT v4_6; unfold bd at h9_5; have h9_6 := bv4_2; unfold bd at h9_6; have h9_7 := bv4_3; unfold bd at h9_7; have h9_8 := bv4_5; unfold bd at h9_8; have h9_9 := bw4_0_10_a0_; unfold bd at h9_9; have h9_10 := bw4_0_8_a0_; unfold bd at h9_10; have h9_11 := bw4_7_6_q1_; unfold bd at h9_11; have h9_12 := h_593; unfold bd at h9_12; have h9_13 := h_598; unfold bd at h9_13; have h9_14 := kb_0; unfold bd at h9_14; have h9_15 := kb_1; unfold bd at h9_15; have h9_16 := kb_12; unfold bd at h9_16; have h9_17 := kb_300; unfold bd at h9_17; have h9_18 := kb_6; unfold bd at h9_18; have h9_19 := kb_7; unfold bd at h9_19; omega) _ _ _ _ g9  hl9
                                      · have fc_600 := nle_f c_600
                                        have b_604 : bd 13 2147483647 y_595 := ltR fc_600 kb_12 (bdT y_595) (by decide)
                                        refine lv_aload_n hx hb dX0_closeParts_227 rfl (lv_at hl 5 rfl) ?_
                                        refine g_getk (C := RX0) (T := TX0) (N := 14) hx hb hts (mc_ inX0) hown hK g rfl 0 (by decide) rfl (hts _ (List.mem_cons_of_mem _ t_373)) (fun _ h9 => h9) 9 rfl dX0_closeParts_228 ?_
                                        refine lv_bipush (v := 7) hx hb dX0_closeParts_231 (by decide) ?_
                                        refine lv_aload_n hx hb dX0_closeParts_233 rfl (lv_at hl 5 rfl) ?_
                                        refine g_getk (C := RX0) (T := TX0) (N := 14) hx hb hts (mc_ inX0) hown hK g rfl 4 (by decide) rfl (hts _ (List.mem_cons_of_mem _ t_377)) (fun _ h9 => h9) 7 rfl dX0_closeParts_234 ?_
                                        refine lv_aload_n hx hb dX0_closeParts_237 rfl (lv_at hl 5 rfl) ?_
                                        refine g_getk (C := RX0) (T := TX0) (N := 14) hx hb hts (mc_ inX0) hown hK g rfl 8 (by decide) rfl (hts _ (List.mem_cons_of_mem _ t_381)) (fun _ h9 => h9) 4 rfl dX0_closeParts_238 ?_
                                        refine g_iald hx hb hK g ma_329 ka_329 (by decide) rfl (in_bd b_347 (by decide)) dX0_closeParts_241 (fun x_605 bx_605 cx_605 => ?_)
                                        refine g_callv (va_runV (As := [.int 7, .int x_605]) (rest := []) ⟨hx, hb, hml, hown, hts⟩ (r_X8_fail_2 l dC dI L kd tys fr_596 H.size g.2.2.2.1 q0_ mq0_ kq0_ 7 (bd_sub kb_7 (by decide)) x_605 x_332 h_333 (g.fcts [6] rfl)) (cwV 2 hts (gV_ t_1215 t_1107 t_1108 t_184 t_1109) rfl rfl rfl (by decide +kernel) ⟨(Nat.le_of_ble_eq_true rfl), (Nat.le_of_ble_eq_true rfl)⟩) (pre3V g hK mq0_ kq0_ (by decide) (q := (RX8, TX8, 10)) rfl) rfl rfl hl.1 rfl (lv_room (Nat.le_of_ble_eq_true rfl)) dX0_closeParts_242 ⟨(Nat.le_of_ble_eq_true rfl), (Nat.le_of_ble_eq_true rfl)⟩) g hK (by decide) (by decide) (fx' := [(0, 12, a0_, .int 0), (0, 10, a0_, .int x_597), (7, 6, q1_, .int x_592), (0, 11, a0_, .int y_588), (0, 8, a0_, .int y_346), (8, 8, q0_, .int x_332), (0, 4, a0_, .ref a_329), (0, 3, a0_, .ref g76_0_3_a0_), (0, 0, a0_, .ref q0_), (0, 2, a0_, .ref q1_)]) rfl (fun fr_606 H locs hp hMr_606 g => ?_)
                                        have hF_607 := hp
                                        have g := g.more hF_607
                                        obtain ⟨y_608, ey_608⟩ : ∃ z : Int32, z = v4_3 + 1 := ⟨_, rfl⟩
                                        refine lv_iinc (v := y_608) (lv' := [(3, .int y_608), (6, .int y_595), (2, .int 1), (5, .int 1), (4, .int x_348), (0, .ref a0_), (1, .int x1_)]) hx hb dX0_closeParts_245 hl (k := 4) rfl (by rw [ey_608]; rfl) (by decide) rfl (fun ls hl => ?_)
                                        have ty_608 := add_bd ey_608 b_340 kb_1 (by decide)
                                        have b_609 : bd 2 300 y_608 := add_rg ty_608 b_340 kb_1 (by decide)
                                        refine lv_goto (tgt := 4) hx hb dX0_closeParts_248 (by decide) ?_
                                        have hl9 := lv_sub hl [0, 1, 2, 3, 4, 5, 6] (by rfl : lv_pick [(3, .int y_608), (6, .int y_595), (2, .int 1), (5, .int 1), (4, .int x_348), (0, .ref a0_), (1, .int x1_)] [0, 1, 2, 3, 4, 5, 6] = [(3, .int y_608), (6, .int y_595), (2, .int 1), (5, .int 1), (4, .int x_348), (0, .ref a0_), (1, .int x1_)])
                                        have g9 := g.sub (fx' := [(8, 6, q0_, .int 1201), (8, 8, q0_, .int x_332), (0, 4, a0_, .ref a_329), (0, 12, a0_, .int 0), (0, 10, a0_, .int x_597), (7, 6, q1_, .int x_592), (0, 8, a0_, .int y_346), (0, 3, a0_, .ref g76_0_3_a0_), (0, 0, a0_, .ref q0_), (0, 2, a0_, .ref q1_)]) [0, 6, 7, 1, 2, 3, 5, 8, 9, 10] rfl
                                        exact ih4  y_608 y_595 1 1 x_348 x_597 x_592 y_346 (bd_sub b_609 (by decide)) (bd_sub kb_1 (by decide)) (bd_sub kb_1 (by decide)) h_598 h_593 (bd_sub b_347 (by decide)) (by have h9_0 := b_347; unfold bd at h9_0; have h9_1 := b_580; unfold bd at h9_1; have h9_2 := b_604; unfold bd at h9_2; have h9_3 := b_609; unfold bd at h9_3; have h9_4 := bdT v4_4; unfold bd at h9_4; have h9_5 := bdT v4_6; unfold bd at h9_5; have h9_6 := bv4_2; unfold bd at h9_6; have h9_7 := bv4_3; unfold bd at h9_7; have h9_8 := bv4_5; unfold bd at h9_8; have h9_9 := bw4_0_10_a0_; unfold bd at h9_9; have h9_10 := bw4_0_8_a0_; unfold bd at h9_10; have h9_11 := bw4_7_6_q1_; unfold bd at h9_11; have h9_12 := h_593; unfold bd at h9_12; have h9_13 := h_598; unfold bd at h9_13; have h9_14 := kb_0; unfold bd at h9_14; have h9_15 := kb_1; unfold bd at h9_15; have h9_16 := kb_12; unfold bd at h9_16; have h9_17 := kb_300; unfold bd at h9_17; have h9_18 := kb_6; unfold bd at h9_18; have h9_19 := kb_7; unfold bd at h9_19; omega) _ _ _ _ g9  hl9
                                    · have fc_590 := eq_f c_590
                                      exact absurd fc_590 fc_349
                      have hl9 := lv_sub hl [0, 1, 2, 3, 4, 5, 6] (by rfl : lv_pick [(3, .int y_335), (6, .int y_319), (2, .int j76_2), (5, .int j76_5), (4, .int j76_4), (0, .ref a0_), (1, .int x1_)] [0, 1, 2, 3, 4, 5, 6] = [(3, .int y_335), (6, .int y_319), (2, .int j76_2), (5, .int j76_5), (4, .int j76_4), (0, .ref a0_), (1, .int x1_)])
                      have g9 := g.sub (fx' := [(8, 6, q0_, .int 1201), (8, 8, q0_, .int x_332), (0, 4, a0_, .ref a_329), (0, 12, a0_, .int 0), (0, 10, a0_, .int x_321), (7, 6, q1_, .int g191_7_6_q1_), (0, 8, a0_, .int g191_0_8_a0_), (0, 3, a0_, .ref g76_0_3_a0_), (0, 0, a0_, .ref q0_), (0, 2, a0_, .ref q1_)]) [0, 1, 2, 3, 4, 5, 6, 7, 8, 9] rfl
                      exact loop_337 (601) y_335 y_319 j76_2 j76_5 j76_4 x_321 g191_7_6_q1_ g191_0_8_a0_ b_336 (bd_sub b_17 (by decide)) (bd_sub b_318 (by decide)) h_322 bg191_7_6_q1_ bg191_0_8_a0_ (by have h9_0 := b_17; unfold bd at h9_0; have h9_1 := b_318; unfold bd at h9_1; have h9_2 := b_328; unfold bd at h9_2; have h9_3 := b_336; unfold bd at h9_3; have h9_4 := bdT j76_4; unfold bd at h9_4; have h9_5 := bg191_0_8_a0_; unfold bd at h9_5; have h9_6 := bg191_7_6_q1_; unfold bd at h9_6; have h9_7 := h_322; unfold bd at h9_7; have h9_8 := kb_0; unfold bd at h9_8; have h9_9 := kb_1; unfold bd at h9_9; have h9_10 := kb_12; unfold bd at h9_10; have h9_11 := kb_300; unfold bd at h9_11; have h9_12 := kb_7; unfold bd at h9_12; omega) _ _ _ _ g9  hl9
                refine lv_aload_n hx hb dX0_closeParts_80 rfl (lv_at hl 4 rfl) ?_
                refine lv_dup hx hb dX0_closeParts_81 rfl ?_
                refine g_getk (C := RX0) (T := TX0) (N := 14) hx hb hts (mc_ inX0) hown hK g rfl 8 (by decide) rfl (hts _ (List.mem_cons_of_mem _ t_381)) (fun _ h9 => h9) 1 rfl dX0_closeParts_82 ?_
                refine lv_iconst (v := 1) hx hb dX0_closeParts_85 (by decide) ?_
                have kb_1 : bd 1 1 (1 : Int32) := ⟨by decide, by decide⟩
                refine lv_isub hx hb dX0_closeParts_86 ?_
                refine lv_topi (fun y_610 ey_610 => ?_)
                have ty_610 := sub_bd ey_610 b_11 kb_1 (by decide)
                have b_611 : bd 0 299 y_610 := sub_rg ty_610 b_11 kb_1 (by decide)
                refine g_put (C := RX0) (T := TX0) (N := 14) hx hb hts (mc_ inX0) tyX0 tyX0_ok nmX0 hown hK g ma0_ ka0_ (by decide) rfl 8 (by decide) (hts _ (List.mem_cons_of_mem _ t_381)) (fun _ h9 => h9) rfl rfl (okV_i (bd_sub b_611 (by decide))) rfl rfl (by decide) (Or.inr (Or.inl (by decide))) (fx' := [(0, 3, a0_, .ref g76_0_3_a0_), (0, 0, a0_, .ref q0_), (0, 2, a0_, .ref q1_), (8, 8, q0_, .int y0_)]) rfl dX0_closeParts_87 (fun f H locs hM_612 g => ?_)
                refine lv_aload_n hx hb dX0_closeParts_90 rfl (lv_at hl 4 rfl) ?_
                refine g_calli (va_runV (As := []) (rest := []) ⟨hx, hb, hml, hown, hts⟩ (r_X0_takeHeight l dC dI L kd tys f H.size g.2.2.2.1 a0_ ma0_ ka0_) (cwV 0 hts (gV_ t_1199 t_1201 t_16 t_190 t_1202) rfl rfl rfl (by decide +kernel) ⟨(Nat.le_of_ble_eq_true rfl), (Nat.le_of_ble_eq_true rfl)⟩) (pre3V g hK ma0_ ka0_ (by decide) (q := (RX0, TX0, 14)) rfl) rfl rfl hl.1 rfl (lv_room (Nat.le_of_ble_eq_true rfl)) dX0_closeParts_91 ⟨(Nat.le_of_ble_eq_true rfl), (Nat.le_of_ble_eq_true rfl)⟩) g hK (by decide) (by decide) (fx' := [(0, 8, a0_, .int y_610), (0, 3, a0_, .ref g76_0_3_a0_), (0, 0, a0_, .ref q0_), (0, 2, a0_, .ref q1_), (8, 8, q0_, .int y0_)]) rfl (fun r_613 fr_613 H locs hp hMr_613 g => ?_)
                obtain ⟨x_614, h_615, hF_616⟩ := hp
                have g := g.more hF_616
                refine lv_istore (lv' := [(6, .int r_613), (2, .int j76_2), (5, .int j76_5), (4, .int j76_4), (3, .int v4_3), (0, .ref a0_), (1, .int x1_)]) hx hb dX0_closeParts_94 hl (by decide) rfl (fun ls hl => ?_)
                refine lv_iload hx hb dX0_closeParts_96 (lv_at hl 2 rfl) ?_
                refine lv_if_eq (tgt := 136) hx hb dX0_closeParts_98 (by decide) (fun c_617 => ?_) (fun c_617 => ?_)
                · have fc_617 := eq_f c_617
                  have b_618 : bd 0 0 j76_5 := eqX fc_617 bj76_5 kb_0 (by decide)
                  refine lv_iload hx hb dX0_closeParts_136 (lv_at hl 3 rfl) ?_
                  refine lv_sipush (v := 205) hx hb dX0_closeParts_138 (by decide) ?_
                  have kb_205 : bd 205 205 (205 : Int32) := ⟨by decide, by decide⟩
                  refine lv_icmp_eq (tgt := 152) hx hb dX0_closeParts_141 (by decide) (fun c_619 => ?_) (fun c_619 => ?_)
                  · have fc_619 := eq_f c_619
                    have b_620 : bd 205 205 j76_4 := eqX fc_619 (bdT j76_4) kb_205 (by decide)
                    refine lv_aload_n hx hb dX0_closeParts_152 rfl (lv_at hl 5 rfl) ?_
                    refine g_getk (C := RX0) (T := TX0) (N := 14) hx hb hts (mc_ inX0) hown hK g rfl 2 (by decide) rfl (hts _ (List.mem_cons_of_mem _ t_375)) (fun _ h9 => h9) 4 rfl dX0_closeParts_153 ?_
                    refine lv_bipush (v := 8) hx hb dX0_closeParts_156 (by decide) ?_
                    refine lv_iconst (v := 0) hx hb dX0_closeParts_158 (by decide) ?_
                    refine g_callv (va_runV (As := [.int 8, .int 0]) (rest := []) ⟨hx, hb, hml, hown, hts⟩ (r_X7_emit l dC dI L kd tys fr_613 H.size g.2.2.2.1 q1_ mq1_ kq1_ 8 0) (cwV 2 hts (gV_ t_1203 t_1204 t_1205 t_191 t_1206) rfl rfl rfl (by decide +kernel) ⟨(Nat.le_of_ble_eq_true rfl), (Nat.le_of_ble_eq_true rfl)⟩) (pre3V g hK mq1_ kq1_ (by decide) (q := (RX7, TX7, 19)) rfl) rfl rfl hl.1 rfl (lv_room (Nat.le_of_ble_eq_true rfl)) dX0_closeParts_159 ⟨(Nat.le_of_ble_eq_true rfl), (Nat.le_of_ble_eq_true rfl)⟩) g hK (by decide) (by decide) (fx' := [(0, 10, a0_, .int x_614), (0, 8, a0_, .int y_610), (0, 3, a0_, .ref g76_0_3_a0_), (0, 0, a0_, .ref q0_), (0, 2, a0_, .ref q1_), (8, 8, q0_, .int y0_)]) rfl (fun fr_621 H locs hp hMr_621 g => ?_)
                    obtain ⟨x_622, h_623, hF_624⟩ := hp
                    have g := g.more hF_624
                    refine lv_aload_n hx hb dX0_closeParts_162 rfl (lv_at hl 5 rfl) ?_
                    refine g_getk (C := RX0) (T := TX0) (N := 14) hx hb hts (mc_ inX0) hown hK g rfl 2 (by decide) rfl (hts _ (List.mem_cons_of_mem _ t_375)) (fun _ h9 => h9) 5 rfl dX0_closeParts_163 ?_
                    refine lv_aload_n hx hb dX0_closeParts_166 rfl (lv_at hl 5 rfl) ?_
                    refine g_getr (K := 112) (C := RX0) (T := TX0) (N := 14) hx hb hts (mc_ inX0) hown hK g ma0_ ka0_ (by decide) rfl 5 (by decide) rfl (hts _ (List.mem_cons_of_mem _ t_378)) (fun _ h9 => h9) rfl dX0_closeParts_167 (fun a_625 ma_625 ka_625 g => ?_)
                    refine lv_aload_n hx hb dX0_closeParts_170 rfl (lv_at hl 5 rfl) ?_
                    refine g_getk (C := RX0) (T := TX0) (N := 14) hx hb hts (mc_ inX0) hown hK g rfl 8 (by decide) rfl (hts _ (List.mem_cons_of_mem _ t_381)) (fun _ h9 => h9) 3 rfl dX0_closeParts_171 ?_
                    refine g_iald hx hb hK g ma_625 ka_625 (by decide) rfl (in_bd b_611 (by decide)) dX0_closeParts_174 (fun x_626 bx_626 cx_626 => ?_)
                    refine g_callv (va_runV (As := [.int x_626]) (rest := []) ⟨hx, hb, hml, hown, hts⟩ (r_X7_leadHere l dC dI L kd tys fr_621 H.size g.2.2.2.1 q1_ mq1_ kq1_ x_626) (cwV 1 hts (gV_ t_1207 t_1208 t_1209 t_191 t_1210) rfl rfl rfl (by decide +kernel) ⟨(Nat.le_of_ble_eq_true rfl), (Nat.le_of_ble_eq_true rfl)⟩) (pre3V g hK mq1_ kq1_ (by decide) (q := (RX7, TX7, 19)) rfl) rfl rfl hl.1 rfl (lv_room (Nat.le_of_ble_eq_true rfl)) dX0_closeParts_175 ⟨(Nat.le_of_ble_eq_true rfl), (Nat.le_of_ble_eq_true rfl)⟩) g hK (by decide) (by decide) (fx' := [(0, 5, a0_, .ref a_625), (7, 6, q1_, .int x_622), (0, 10, a0_, .int x_614), (0, 8, a0_, .int y_610), (0, 3, a0_, .ref g76_0_3_a0_), (0, 0, a0_, .ref q0_), (0, 2, a0_, .ref q1_), (8, 8, q0_, .int y0_)]) rfl (fun fr_627 H locs hp hMr_627 g => ?_)
                    refine lv_goto (tgt := 191) hx hb dX0_closeParts_178 (by decide) ?_
                    have hl9 := lv_sub hl [0, 1, 2, 3, 4, 5, 6] (by rfl : lv_pick [(6, .int r_613), (2, .int j76_2), (5, .int j76_5), (4, .int j76_4), (3, .int v4_3), (0, .ref a0_), (1, .int x1_)] [0, 1, 2, 3, 4, 5, 6] = [(6, .int r_613), (2, .int j76_2), (5, .int j76_5), (4, .int j76_4), (3, .int v4_3), (0, .ref a0_), (1, .int x1_)])
                    have g9 := g.sub (fx' := [(7, 6, q1_, .int x_622), (0, 10, a0_, .int x_614), (0, 8, a0_, .int y_610), (0, 3, a0_, .ref g76_0_3_a0_), (0, 0, a0_, .ref q0_), (0, 2, a0_, .ref q1_), (8, 8, q0_, .int y0_)]) [1, 2, 3, 4, 5, 6, 7] rfl
                    exact join_18 r_613 x_622 x_614 y_610 _ _ _ _ h_623 h_615 b_611 g9  hl9
                  · have fc_619 := neq_f c_619
                    refine lv_iload hx hb dX0_closeParts_144 (lv_at hl 3 rfl) ?_
                    refine lv_sipush (v := 206) hx hb dX0_closeParts_146 (by decide) ?_
                    have kb_206 : bd 206 206 (206 : Int32) := ⟨by decide, by decide⟩
                    refine lv_icmp_ne (tgt := 181) hx hb dX0_closeParts_149 (by decide) (fun c_628 => ?_) (fun c_628 => ?_)
                    · have fc_628 := neq_f c_628
                      refine lv_aload_n hx hb dX0_closeParts_181 rfl (lv_at hl 5 rfl) ?_
                      refine g_getk (C := RX0) (T := TX0) (N := 14) hx hb hts (mc_ inX0) hown hK g rfl 2 (by decide) rfl (hts _ (List.mem_cons_of_mem _ t_375)) (fun _ h9 => h9) 4 rfl dX0_closeParts_182 ?_
                      refine lv_iload hx hb dX0_closeParts_185 (lv_at hl 3 rfl) ?_
                      refine lv_iconst (v := 0) hx hb dX0_closeParts_187 (by decide) ?_
                      refine g_callv (va_runV (As := [.int j76_4, .int 0]) (rest := []) ⟨hx, hb, hml, hown, hts⟩ (r_X7_emit l dC dI L kd tys fr_613 H.size g.2.2.2.1 q1_ mq1_ kq1_ j76_4 0) (cwV 2 hts (gV_ t_1203 t_1204 t_1205 t_191 t_1206) rfl rfl rfl (by decide +kernel) ⟨(Nat.le_of_ble_eq_true rfl), (Nat.le_of_ble_eq_true rfl)⟩) (pre3V g hK mq1_ kq1_ (by decide) (q := (RX7, TX7, 19)) rfl) rfl rfl hl.1 rfl (lv_room (Nat.le_of_ble_eq_true rfl)) dX0_closeParts_188 ⟨(Nat.le_of_ble_eq_true rfl), (Nat.le_of_ble_eq_true rfl)⟩) g hK (by decide) (by decide) (fx' := [(0, 10, a0_, .int x_614), (0, 8, a0_, .int y_610), (0, 3, a0_, .ref g76_0_3_a0_), (0, 0, a0_, .ref q0_), (0, 2, a0_, .ref q1_), (8, 8, q0_, .int y0_)]) rfl (fun fr_629 H locs hp hMr_629 g => ?_)
                      obtain ⟨x_630, h_631, hF_632⟩ := hp
                      have g := g.more hF_632
                      have hl9 := lv_sub hl [0, 1, 2, 3, 4, 5, 6] (by rfl : lv_pick [(6, .int r_613), (2, .int j76_2), (5, .int j76_5), (4, .int j76_4), (3, .int v4_3), (0, .ref a0_), (1, .int x1_)] [0, 1, 2, 3, 4, 5, 6] = [(6, .int r_613), (2, .int j76_2), (5, .int j76_5), (4, .int j76_4), (3, .int v4_3), (0, .ref a0_), (1, .int x1_)])
                      have g9 := g.sub (fx' := [(7, 6, q1_, .int x_630), (0, 10, a0_, .int x_614), (0, 8, a0_, .int y_610), (0, 3, a0_, .ref g76_0_3_a0_), (0, 0, a0_, .ref q0_), (0, 2, a0_, .ref q1_), (8, 8, q0_, .int y0_)]) [0, 1, 2, 3, 4, 5, 6] rfl
                      exact join_18 r_613 x_630 x_614 y_610 _ _ _ _ h_631 h_615 b_611 g9  hl9
                    · have fc_628 := eq_f c_628
                      have b_633 : bd 206 206 j76_4 := eqX fc_628 (bdT j76_4) kb_206 (by decide)
                      refine lv_aload_n hx hb dX0_closeParts_152 rfl (lv_at hl 5 rfl) ?_
                      refine g_getk (C := RX0) (T := TX0) (N := 14) hx hb hts (mc_ inX0) hown hK g rfl 2 (by decide) rfl (hts _ (List.mem_cons_of_mem _ t_375)) (fun _ h9 => h9) 4 rfl dX0_closeParts_153 ?_
                      refine lv_bipush (v := 8) hx hb dX0_closeParts_156 (by decide) ?_
                      refine lv_iconst (v := 0) hx hb dX0_closeParts_158 (by decide) ?_
                      refine g_callv (va_runV (As := [.int 8, .int 0]) (rest := []) ⟨hx, hb, hml, hown, hts⟩ (r_X7_emit l dC dI L kd tys fr_613 H.size g.2.2.2.1 q1_ mq1_ kq1_ 8 0) (cwV 2 hts (gV_ t_1203 t_1204 t_1205 t_191 t_1206) rfl rfl rfl (by decide +kernel) ⟨(Nat.le_of_ble_eq_true rfl), (Nat.le_of_ble_eq_true rfl)⟩) (pre3V g hK mq1_ kq1_ (by decide) (q := (RX7, TX7, 19)) rfl) rfl rfl hl.1 rfl (lv_room (Nat.le_of_ble_eq_true rfl)) dX0_closeParts_159 ⟨(Nat.le_of_ble_eq_true rfl), (Nat.le_of_ble_eq_true rfl)⟩) g hK (by decide) (by decide) (fx' := [(0, 10, a0_, .int x_614), (0, 8, a0_, .int y_610), (0, 3, a0_, .ref g76_0_3_a0_), (0, 0, a0_, .ref q0_), (0, 2, a0_, .ref q1_), (8, 8, q0_, .int y0_)]) rfl (fun fr_634 H locs hp hMr_634 g => ?_)
                      obtain ⟨x_635, h_636, hF_637⟩ := hp
                      have g := g.more hF_637
                      refine lv_aload_n hx hb dX0_closeParts_162 rfl (lv_at hl 5 rfl) ?_
                      refine g_getk (C := RX0) (T := TX0) (N := 14) hx hb hts (mc_ inX0) hown hK g rfl 2 (by decide) rfl (hts _ (List.mem_cons_of_mem _ t_375)) (fun _ h9 => h9) 5 rfl dX0_closeParts_163 ?_
                      refine lv_aload_n hx hb dX0_closeParts_166 rfl (lv_at hl 5 rfl) ?_
                      refine g_getr (K := 112) (C := RX0) (T := TX0) (N := 14) hx hb hts (mc_ inX0) hown hK g ma0_ ka0_ (by decide) rfl 5 (by decide) rfl (hts _ (List.mem_cons_of_mem _ t_378)) (fun _ h9 => h9) rfl dX0_closeParts_167 (fun a_638 ma_638 ka_638 g => ?_)
                      refine lv_aload_n hx hb dX0_closeParts_170 rfl (lv_at hl 5 rfl) ?_
                      refine g_getk (C := RX0) (T := TX0) (N := 14) hx hb hts (mc_ inX0) hown hK g rfl 8 (by decide) rfl (hts _ (List.mem_cons_of_mem _ t_381)) (fun _ h9 => h9) 3 rfl dX0_closeParts_171 ?_
                      refine g_iald hx hb hK g ma_638 ka_638 (by decide) rfl (in_bd b_611 (by decide)) dX0_closeParts_174 (fun x_639 bx_639 cx_639 => ?_)
                      refine g_callv (va_runV (As := [.int x_639]) (rest := []) ⟨hx, hb, hml, hown, hts⟩ (r_X7_leadHere l dC dI L kd tys fr_634 H.size g.2.2.2.1 q1_ mq1_ kq1_ x_639) (cwV 1 hts (gV_ t_1207 t_1208 t_1209 t_191 t_1210) rfl rfl rfl (by decide +kernel) ⟨(Nat.le_of_ble_eq_true rfl), (Nat.le_of_ble_eq_true rfl)⟩) (pre3V g hK mq1_ kq1_ (by decide) (q := (RX7, TX7, 19)) rfl) rfl rfl hl.1 rfl (lv_room (Nat.le_of_ble_eq_true rfl)) dX0_closeParts_175 ⟨(Nat.le_of_ble_eq_true rfl), (Nat.le_of_ble_eq_true rfl)⟩) g hK (by decide) (by decide) (fx' := [(0, 5, a0_, .ref a_638), (7, 6, q1_, .int x_635), (0, 10, a0_, .int x_614), (0, 8, a0_, .int y_610), (0, 3, a0_, .ref g76_0_3_a0_), (0, 0, a0_, .ref q0_), (0, 2, a0_, .ref q1_), (8, 8, q0_, .int y0_)]) rfl (fun fr_640 H locs hp hMr_640 g => ?_)
                      refine lv_goto (tgt := 191) hx hb dX0_closeParts_178 (by decide) ?_
                      have hl9 := lv_sub hl [0, 1, 2, 3, 4, 5, 6] (by rfl : lv_pick [(6, .int r_613), (2, .int j76_2), (5, .int j76_5), (4, .int j76_4), (3, .int v4_3), (0, .ref a0_), (1, .int x1_)] [0, 1, 2, 3, 4, 5, 6] = [(6, .int r_613), (2, .int j76_2), (5, .int j76_5), (4, .int j76_4), (3, .int v4_3), (0, .ref a0_), (1, .int x1_)])
                      have g9 := g.sub (fx' := [(7, 6, q1_, .int x_635), (0, 10, a0_, .int x_614), (0, 8, a0_, .int y_610), (0, 3, a0_, .ref g76_0_3_a0_), (0, 0, a0_, .ref q0_), (0, 2, a0_, .ref q1_), (8, 8, q0_, .int y0_)]) [1, 2, 3, 4, 5, 6, 7] rfl
                      exact join_18 r_613 x_635 x_614 y_610 _ _ _ _ h_636 h_615 b_611 g9  hl9
                · have fc_617 := neq_f c_617
                  have b_641 : bd 1 1 j76_5 := neX fc_617 bj76_5 kb_0 (by decide)
                  refine lv_aload_n hx hb dX0_closeParts_101 rfl (lv_at hl 5 rfl) ?_
                  refine lv_dup hx hb dX0_closeParts_102 rfl ?_
                  refine g_geti (C := RX0) (T := TX0) (N := 14) hx hb hts (mc_ inX0) hown hK g ma0_ ka0_ (by decide) rfl 11 (by decide) rfl (hts _ (List.mem_cons_of_mem _ t_384)) (fun _ h9 => h9) rfl dX0_closeParts_103 (fun x_642 bx_642 g => ?_)
                  refine lv_iconst (v := 1) hx hb dX0_closeParts_106 (by decide) ?_
                  refine lv_isub hx hb dX0_closeParts_107 ?_
                  refine lv_topi (fun y_643 ey_643 => ?_)
                  refine g_put (C := RX0) (T := TX0) (N := 14) hx hb hts (mc_ inX0) tyX0 tyX0_ok nmX0 hown hK g ma0_ ka0_ (by decide) rfl 11 (by decide) (hts _ (List.mem_cons_of_mem _ t_384)) (fun _ h9 => h9) rfl rfl (okV_i (bdT y_643)) rfl rfl (by decide) (Or.inr (Or.inl (by decide))) (fx' := [(0, 10, a0_, .int x_614), (0, 8, a0_, .int y_610), (0, 3, a0_, .ref g76_0_3_a0_), (0, 0, a0_, .ref q0_), (0, 2, a0_, .ref q1_), (8, 8, q0_, .int y0_)]) rfl dX0_closeParts_108 (fun f H locs hM_644 g => ?_)
                  refine lv_aload_n hx hb dX0_closeParts_111 rfl (lv_at hl 5 rfl) ?_
                  refine g_getk (C := RX0) (T := TX0) (N := 14) hx hb hts (mc_ inX0) hown hK g rfl 2 (by decide) rfl (hts _ (List.mem_cons_of_mem _ t_375)) (fun _ h9 => h9) 5 rfl dX0_closeParts_112 ?_
                  refine lv_iload hx hb dX0_closeParts_115 (lv_at hl 3 rfl) ?_
                  refine lv_bipush (v := 6) hx hb dX0_closeParts_117 (by decide) ?_
                  have kb_6 : bd 6 6 (6 : Int32) := ⟨by decide, by decide⟩
                  refine lv_icmp_ne (tgt := 127) hx hb dX0_closeParts_119 (by decide) (fun c_645 => ?_) (fun c_645 => ?_)
                  · have fc_645 := neq_f c_645
                    refine lv_bipush (v := 7) hx hb dX0_closeParts_127 (by decide) ?_
                    refine lv_iconst (v := 0) hx hb dX0_closeParts_129 (by decide) ?_
                    refine g_callv (va_runV (As := [.int 7, .int 0]) (rest := []) ⟨hx, hb, hml, hown, hts⟩ (r_X7_emit l dC dI L kd tys f H.size g.2.2.2.1 q1_ mq1_ kq1_ 7 0) (cwV 2 hts (gV_ t_1203 t_1204 t_1205 t_191 t_1206) rfl rfl rfl (by decide +kernel) ⟨(Nat.le_of_ble_eq_true rfl), (Nat.le_of_ble_eq_true rfl)⟩) (pre3V g hK mq1_ kq1_ (by decide) (q := (RX7, TX7, 19)) rfl) rfl rfl hl.1 rfl (lv_room (Nat.le_of_ble_eq_true rfl)) dX0_closeParts_130 ⟨(Nat.le_of_ble_eq_true rfl), (Nat.le_of_ble_eq_true rfl)⟩) g hK (by decide) (by decide) (fx' := [(0, 11, a0_, .int y_643), (0, 10, a0_, .int x_614), (0, 8, a0_, .int y_610), (0, 3, a0_, .ref g76_0_3_a0_), (0, 0, a0_, .ref q0_), (0, 2, a0_, .ref q1_), (8, 8, q0_, .int y0_)]) rfl (fun fr_646 H locs hp hMr_646 g => ?_)
                    obtain ⟨x_647, h_648, hF_649⟩ := hp
                    have g := g.more hF_649
                    refine lv_goto (tgt := 191) hx hb dX0_closeParts_133 (by decide) ?_
                    have hl9 := lv_sub hl [0, 1, 2, 3, 4, 5, 6] (by rfl : lv_pick [(6, .int r_613), (2, .int j76_2), (5, .int j76_5), (4, .int j76_4), (3, .int v4_3), (0, .ref a0_), (1, .int x1_)] [0, 1, 2, 3, 4, 5, 6] = [(6, .int r_613), (2, .int j76_2), (5, .int j76_5), (4, .int j76_4), (3, .int v4_3), (0, .ref a0_), (1, .int x1_)])
                    have g9 := g.sub (fx' := [(7, 6, q1_, .int x_647), (0, 10, a0_, .int x_614), (0, 8, a0_, .int y_610), (0, 3, a0_, .ref g76_0_3_a0_), (0, 0, a0_, .ref q0_), (0, 2, a0_, .ref q1_), (8, 8, q0_, .int y0_)]) [0, 2, 3, 4, 5, 6, 7] rfl
                    exact join_18 r_613 x_647 x_614 y_610 _ _ _ _ h_648 h_615 b_611 g9  hl9
                  · have fc_645 := eq_f c_645
                    have b_650 : bd 6 6 j76_4 := eqX fc_645 (bdT j76_4) kb_6 (by decide)
                    refine lv_bipush (v := 6) hx hb dX0_closeParts_122 (by decide) ?_
                    refine lv_goto (tgt := 129) hx hb dX0_closeParts_124 (by decide) ?_
                    refine lv_iconst (v := 0) hx hb dX0_closeParts_129 (by decide) ?_
                    refine g_callv (va_runV (As := [.int 6, .int 0]) (rest := []) ⟨hx, hb, hml, hown, hts⟩ (r_X7_emit l dC dI L kd tys f H.size g.2.2.2.1 q1_ mq1_ kq1_ 6 0) (cwV 2 hts (gV_ t_1203 t_1204 t_1205 t_191 t_1206) rfl rfl rfl (by decide +kernel) ⟨(Nat.le_of_ble_eq_true rfl), (Nat.le_of_ble_eq_true rfl)⟩) (pre3V g hK mq1_ kq1_ (by decide) (q := (RX7, TX7, 19)) rfl) rfl rfl hl.1 rfl (lv_room (Nat.le_of_ble_eq_true rfl)) dX0_closeParts_130 ⟨(Nat.le_of_ble_eq_true rfl), (Nat.le_of_ble_eq_true rfl)⟩) g hK (by decide) (by decide) (fx' := [(0, 11, a0_, .int y_643), (0, 10, a0_, .int x_614), (0, 8, a0_, .int y_610), (0, 3, a0_, .ref g76_0_3_a0_), (0, 0, a0_, .ref q0_), (0, 2, a0_, .ref q1_), (8, 8, q0_, .int y0_)]) rfl (fun fr_651 H locs hp hMr_651 g => ?_)
                    obtain ⟨x_652, h_653, hF_654⟩ := hp
                    have g := g.more hF_654
                    refine lv_goto (tgt := 191) hx hb dX0_closeParts_133 (by decide) ?_
                    have hl9 := lv_sub hl [0, 1, 2, 3, 4, 5, 6] (by rfl : lv_pick [(6, .int r_613), (2, .int j76_2), (5, .int j76_5), (4, .int j76_4), (3, .int v4_3), (0, .ref a0_), (1, .int x1_)] [0, 1, 2, 3, 4, 5, 6] = [(6, .int r_613), (2, .int j76_2), (5, .int j76_5), (4, .int j76_4), (3, .int v4_3), (0, .ref a0_), (1, .int x1_)])
                    have g9 := g.sub (fx' := [(7, 6, q1_, .int x_652), (0, 10, a0_, .int x_614), (0, 8, a0_, .int y_610), (0, 3, a0_, .ref g76_0_3_a0_), (0, 0, a0_, .ref q0_), (0, 2, a0_, .ref q1_), (8, 8, q0_, .int y0_)]) [0, 2, 3, 4, 5, 6, 7] rfl
                    exact join_18 r_613 x_652 x_614 y_610 _ _ _ _ h_653 h_615 b_611 g9  hl9
            refine lv_aload_n hx hb dX0_closeParts_22 rfl (lv_at hl 2 rfl) ?_
            refine g_getr (K := 110) (C := RX0) (T := TX0) (N := 14) hx hb hts (mc_ inX0) hown hK g ma0_ ka0_ (by decide) rfl 3 (by decide) rfl (hts _ (List.mem_cons_of_mem _ t_376)) (fun _ h9 => h9) rfl dX0_closeParts_23 (fun a_655 ma_655 ka_655 g => ?_)
            refine lv_aload_n hx hb dX0_closeParts_26 rfl (lv_at hl 2 rfl) ?_
            refine g_getk (C := RX0) (T := TX0) (N := 14) hx hb hts (mc_ inX0) hown hK g rfl 8 (by decide) rfl (hts _ (List.mem_cons_of_mem _ t_381)) (fun _ h9 => h9) 1 rfl dX0_closeParts_27 ?_
            refine lv_iconst (v := 1) hx hb dX0_closeParts_30 (by decide) ?_
            have kb_1 : bd 1 1 (1 : Int32) := ⟨by decide, by decide⟩
            refine lv_isub hx hb dX0_closeParts_31 ?_
            refine lv_topi (fun y_656 ey_656 => ?_)
            have ty_656 := sub_bd ey_656 b_11 kb_1 (by decide)
            have b_657 : bd 0 299 y_656 := sub_rg ty_656 b_11 kb_1 (by decide)
            refine g_iald hx hb hK g ma_655 ka_655 (by decide) rfl (in_bd b_657 (by decide)) dX0_closeParts_32 (fun x_658 bx_658 cx_658 => ?_)
            refine lv_istore (lv' := [(4, .int x_658), (3, .int v4_3), (2, .int v4_2), (0, .ref a0_), (1, .int x1_)]) hx hb dX0_closeParts_33 hl (by decide) rfl (fun ls hl => ?_)
            refine lv_iload hx hb dX0_closeParts_35 (lv_at hl 0 rfl) ?_
            refine lv_bipush (v := 6) hx hb dX0_closeParts_37 (by decide) ?_
            have kb_6 : bd 6 6 (6 : Int32) := ⟨by decide, by decide⟩
            refine lv_icmp_eq (tgt := 49) hx hb dX0_closeParts_39 (by decide) (fun c_659 => ?_) (fun c_659 => ?_)
            · have fc_659 := eq_f c_659
              have b_660 : bd 6 6 x_658 := eqX fc_659 (bdT x_658) kb_6 (by decide)
              refine lv_iconst (v := 1) hx hb dX0_closeParts_49 (by decide) ?_
              refine lv_goto (tgt := 54) hx hb dX0_closeParts_50 (by decide) ?_
              refine lv_istore (lv' := [(5, .int 1), (4, .int x_658), (3, .int v4_3), (2, .int v4_2), (0, .ref a0_), (1, .int x1_)]) hx hb dX0_closeParts_54 hl (by decide) rfl (fun ls hl => ?_)
              refine lv_iload hx hb dX0_closeParts_56 (lv_at hl 0 rfl) ?_
              refine lv_if_ne (tgt := 70) hx hb dX0_closeParts_58 (by decide) (fun c_ => ?_) (fun c_ => absurd c_ (by decide))
              refine lv_iconst (v := 1) hx hb dX0_closeParts_70 (by decide) ?_
              refine lv_goto (tgt := 75) hx hb dX0_closeParts_71 (by decide) ?_
              refine lv_istore_n (lv' := [(2, .int 1), (5, .int 1), (4, .int x_658), (3, .int v4_3), (0, .ref a0_), (1, .int x1_)]) hx hb dX0_closeParts_75 rfl hl (by decide) rfl (fun ls hl => ?_)
              have hl9 := lv_sub hl [0, 1, 2, 3, 4, 5] (by rfl : lv_pick [(2, .int 1), (5, .int 1), (4, .int x_658), (3, .int v4_3), (0, .ref a0_), (1, .int x1_)] [0, 1, 2, 3, 4, 5] = [(2, .int 1), (5, .int 1), (4, .int x_658), (3, .int v4_3), (0, .ref a0_), (1, .int x1_)])
              have g9 := g.sub (fx' := [(0, 3, a0_, .ref a_655), (0, 8, a0_, .int x_8), (0, 0, a0_, .ref q0_), (0, 2, a0_, .ref q1_), (8, 8, q0_, .int y0_)]) [0, 1, 2, 3, 4] rfl
              exact join_12 1 1 x_658 a_655 _ _ _ _ (bd_sub kb_1 (by decide)) (bd_sub kb_1 (by decide)) ma_655 ka_655 g9  hl9
            · have fc_659 := neq_f c_659
              refine lv_iload hx hb dX0_closeParts_42 (lv_at hl 0 rfl) ?_
              refine lv_bipush (v := 7) hx hb dX0_closeParts_44 (by decide) ?_
              have kb_7 : bd 7 7 (7 : Int32) := ⟨by decide, by decide⟩
              refine lv_icmp_ne (tgt := 53) hx hb dX0_closeParts_46 (by decide) (fun c_661 => ?_) (fun c_661 => ?_)
              · have fc_661 := neq_f c_661
                refine lv_iconst (v := 0) hx hb dX0_closeParts_53 (by decide) ?_
                refine lv_istore (lv' := [(5, .int 0), (4, .int x_658), (3, .int v4_3), (2, .int v4_2), (0, .ref a0_), (1, .int x1_)]) hx hb dX0_closeParts_54 hl (by decide) rfl (fun ls hl => ?_)
                refine lv_iload hx hb dX0_closeParts_56 (lv_at hl 0 rfl) ?_
                refine lv_if_ne (tgt := 70) hx hb dX0_closeParts_58 (by decide) (fun c_ => absurd c_ (by decide)) (fun c_ => ?_)
                refine lv_iload hx hb dX0_closeParts_61 (lv_at hl 1 rfl) ?_
                refine g_calli (va_runS (As := [.int x_658]) (rest := []) ⟨hx, hb, hml, hown, hts⟩ (r_X0_levelOf l dC dI L kd tys f H.size g.2.2.2.1 x_658) (va_cwS 1 hts (gS_ t_1191 t_1192 t_190 t_1193) rfl rfl rfl (by decide +kernel) ⟨(Nat.le_of_ble_eq_true rfl), (Nat.le_of_ble_eq_true rfl)⟩) (pre3S g hK) rfl rfl hl.1 rfl (lv_room (Nat.le_of_ble_eq_true rfl)) dX0_closeParts_63 ⟨(Nat.le_of_ble_eq_true rfl), (Nat.le_of_ble_eq_true rfl)⟩) g hK (by decide) (by decide) (fx' := [(0, 3, a0_, .ref a_655), (0, 8, a0_, .int x_8), (0, 0, a0_, .ref q0_), (0, 2, a0_, .ref q1_), (8, 8, q0_, .int y0_)]) rfl (fun r_662 fr_662 H locs hp hMr_662 g => ?_)
                rcases hp with ⟨h_663, -⟩ | ⟨h_664, h_665, -⟩
                · obtain rfl : r_662 = 0 := h_663
                  refine lv_iload_n hx hb dX0_closeParts_66 rfl (lv_at hl 5 rfl) ?_
                  refine lv_icmp_lt (tgt := 74) hx hb dX0_closeParts_67 (by decide) (fun c_666 => ?_) (fun c_666 => ?_)
                  · have fc_666 := lt_f c_666
                    have b_667 : bd 1 2147483647 x1_ := ltR fc_666 kb_0 (bdT x1_) (by decide)
                    refine lv_iconst (v := 0) hx hb dX0_closeParts_74 (by decide) ?_
                    refine lv_istore_n (lv' := [(2, .int 0), (5, .int 0), (4, .int x_658), (3, .int v4_3), (0, .ref a0_), (1, .int x1_)]) hx hb dX0_closeParts_75 rfl hl (by decide) rfl (fun ls hl => ?_)
                    have hl9 := lv_sub hl [0, 1, 2, 3, 4, 5] (by rfl : lv_pick [(2, .int 0), (5, .int 0), (4, .int x_658), (3, .int v4_3), (0, .ref a0_), (1, .int x1_)] [0, 1, 2, 3, 4, 5] = [(2, .int 0), (5, .int 0), (4, .int x_658), (3, .int v4_3), (0, .ref a0_), (1, .int x1_)])
                    have g9 := g.sub (fx' := [(0, 3, a0_, .ref a_655), (0, 8, a0_, .int x_8), (0, 0, a0_, .ref q0_), (0, 2, a0_, .ref q1_), (8, 8, q0_, .int y0_)]) [0, 1, 2, 3, 4] rfl
                    exact join_12 0 0 x_658 a_655 _ _ _ _ (bd_sub kb_0 (by decide)) (bd_sub kb_0 (by decide)) ma_655 ka_655 g9  hl9
                  · have fc_666 := nlt_f c_666
                    have b_668 : bd (-2147483648) 0 x1_ := leL fc_666 (bdT x1_) kb_0 (by decide)
                    refine lv_iconst (v := 1) hx hb dX0_closeParts_70 (by decide) ?_
                    refine lv_goto (tgt := 75) hx hb dX0_closeParts_71 (by decide) ?_
                    refine lv_istore_n (lv' := [(2, .int 1), (5, .int 0), (4, .int x_658), (3, .int v4_3), (0, .ref a0_), (1, .int x1_)]) hx hb dX0_closeParts_75 rfl hl (by decide) rfl (fun ls hl => ?_)
                    have hl9 := lv_sub hl [0, 1, 2, 3, 4, 5] (by rfl : lv_pick [(2, .int 1), (5, .int 0), (4, .int x_658), (3, .int v4_3), (0, .ref a0_), (1, .int x1_)] [0, 1, 2, 3, 4, 5] = [(2, .int 1), (5, .int 0), (4, .int x_658), (3, .int v4_3), (0, .ref a0_), (1, .int x1_)])
                    have g9 := g.sub (fx' := [(0, 3, a0_, .ref a_655), (0, 8, a0_, .int x_8), (0, 0, a0_, .ref q0_), (0, 2, a0_, .ref q1_), (8, 8, q0_, .int y0_)]) [0, 1, 2, 3, 4] rfl
                    exact join_12 1 0 x_658 a_655 _ _ _ _ (bd_sub kb_1 (by decide)) (bd_sub kb_0 (by decide)) ma_655 ka_655 g9  hl9
                · have b_669 : bd 37 206 x_658 := eqX rfl (bdT x_658) h_665 (by decide)
                  refine lv_iload_n hx hb dX0_closeParts_66 rfl (lv_at hl 5 rfl) ?_
                  refine lv_icmp_lt (tgt := 74) hx hb dX0_closeParts_67 (by decide) (fun c_670 => ?_) (fun c_670 => ?_)
                  · have fc_670 := lt_f c_670
                    have b_671 : bd 2 2147483647 x1_ := ltR fc_670 h_664 (bdT x1_) (by decide)
                    refine lv_iconst (v := 0) hx hb dX0_closeParts_74 (by decide) ?_
                    refine lv_istore_n (lv' := [(2, .int 0), (5, .int 0), (4, .int x_658), (3, .int v4_3), (0, .ref a0_), (1, .int x1_)]) hx hb dX0_closeParts_75 rfl hl (by decide) rfl (fun ls hl => ?_)
                    have hl9 := lv_sub hl [0, 1, 2, 3, 4, 5] (by rfl : lv_pick [(2, .int 0), (5, .int 0), (4, .int x_658), (3, .int v4_3), (0, .ref a0_), (1, .int x1_)] [0, 1, 2, 3, 4, 5] = [(2, .int 0), (5, .int 0), (4, .int x_658), (3, .int v4_3), (0, .ref a0_), (1, .int x1_)])
                    have g9 := g.sub (fx' := [(0, 3, a0_, .ref a_655), (0, 8, a0_, .int x_8), (0, 0, a0_, .ref q0_), (0, 2, a0_, .ref q1_), (8, 8, q0_, .int y0_)]) [0, 1, 2, 3, 4] rfl
                    exact join_12 0 0 x_658 a_655 _ _ _ _ (bd_sub kb_0 (by decide)) (bd_sub kb_0 (by decide)) ma_655 ka_655 g9  hl9
                  · have fc_670 := nlt_f c_670
                    have b_672 : bd (-2147483648) 5 x1_ := leL fc_670 (bdT x1_) h_664 (by decide)
                    refine lv_iconst (v := 1) hx hb dX0_closeParts_70 (by decide) ?_
                    refine lv_goto (tgt := 75) hx hb dX0_closeParts_71 (by decide) ?_
                    refine lv_istore_n (lv' := [(2, .int 1), (5, .int 0), (4, .int x_658), (3, .int v4_3), (0, .ref a0_), (1, .int x1_)]) hx hb dX0_closeParts_75 rfl hl (by decide) rfl (fun ls hl => ?_)
                    have hl9 := lv_sub hl [0, 1, 2, 3, 4, 5] (by rfl : lv_pick [(2, .int 1), (5, .int 0), (4, .int x_658), (3, .int v4_3), (0, .ref a0_), (1, .int x1_)] [0, 1, 2, 3, 4, 5] = [(2, .int 1), (5, .int 0), (4, .int x_658), (3, .int v4_3), (0, .ref a0_), (1, .int x1_)])
                    have g9 := g.sub (fx' := [(0, 3, a0_, .ref a_655), (0, 8, a0_, .int x_8), (0, 0, a0_, .ref q0_), (0, 2, a0_, .ref q1_), (8, 8, q0_, .int y0_)]) [0, 1, 2, 3, 4] rfl
                    exact join_12 1 0 x_658 a_655 _ _ _ _ (bd_sub kb_1 (by decide)) (bd_sub kb_0 (by decide)) ma_655 ka_655 g9  hl9
              · have fc_661 := eq_f c_661
                have b_673 : bd 7 7 x_658 := eqX fc_661 (bdT x_658) kb_7 (by decide)
                refine lv_iconst (v := 1) hx hb dX0_closeParts_49 (by decide) ?_
                refine lv_goto (tgt := 54) hx hb dX0_closeParts_50 (by decide) ?_
                refine lv_istore (lv' := [(5, .int 1), (4, .int x_658), (3, .int v4_3), (2, .int v4_2), (0, .ref a0_), (1, .int x1_)]) hx hb dX0_closeParts_54 hl (by decide) rfl (fun ls hl => ?_)
                refine lv_iload hx hb dX0_closeParts_56 (lv_at hl 0 rfl) ?_
                refine lv_if_ne (tgt := 70) hx hb dX0_closeParts_58 (by decide) (fun c_ => ?_) (fun c_ => absurd c_ (by decide))
                refine lv_iconst (v := 1) hx hb dX0_closeParts_70 (by decide) ?_
                refine lv_goto (tgt := 75) hx hb dX0_closeParts_71 (by decide) ?_
                refine lv_istore_n (lv' := [(2, .int 1), (5, .int 1), (4, .int x_658), (3, .int v4_3), (0, .ref a0_), (1, .int x1_)]) hx hb dX0_closeParts_75 rfl hl (by decide) rfl (fun ls hl => ?_)
                have hl9 := lv_sub hl [0, 1, 2, 3, 4, 5] (by rfl : lv_pick [(2, .int 1), (5, .int 1), (4, .int x_658), (3, .int v4_3), (0, .ref a0_), (1, .int x1_)] [0, 1, 2, 3, 4, 5] = [(2, .int 1), (5, .int 1), (4, .int x_658), (3, .int v4_3), (0, .ref a0_), (1, .int x1_)])
                have g9 := g.sub (fx' := [(0, 3, a0_, .ref a_655), (0, 8, a0_, .int x_8), (0, 0, a0_, .ref q0_), (0, 2, a0_, .ref q1_), (8, 8, q0_, .int y0_)]) [0, 1, 2, 3, 4] rfl
                exact join_12 1 1 x_658 a_655 _ _ _ _ (bd_sub kb_1 (by decide)) (bd_sub kb_1 (by decide)) ma_655 ka_655 g9  hl9
  have kb_0 : bd 0 0 (0 : Int32) := ⟨by decide, by decide⟩
  have kb_1 : bd 1 1 (1 : Int32) := ⟨by decide, by decide⟩
  have hl9 := lv_sub hl [0, 1, 2, 3] (by rfl : lv_pick [(3, .int 0), (2, .int 1), (0, .ref a0_), (1, .int x1_)] [0, 1, 2, 3] = [(3, .int 0), (2, .int 1), (0, .ref a0_), (1, .int x1_)])
  have g9 := g.sub (fx' := [(0, 0, a0_, .ref q0_), (0, 2, a0_, .ref q1_), (8, 8, q0_, .int y0_)]) [0, 1, 2] rfl
  exact loop_1 (603) 0 1 (bd_sub kb_0 (by decide)) (bd_sub kb_1 (by decide)) (by have h9_0 := kb_0; unfold bd at h9_0; have h9_1 := kb_1; unfold bd at h9_1; omega) _ _ _ _ g9  hl9
