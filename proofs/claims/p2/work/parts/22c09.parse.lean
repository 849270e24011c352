set_option maxHeartbeats 4000000 in
set_option maxRecDepth 100000 in
theorem r_X0_closeParts (l : Launch) (dC : Nat → ClassId) (dI : Nat → Nat → Nat) (L : List Nat) (kd : Nat → Nat) (tys : List (ClassId × FieldType)) (f0 : Nat → va_E) (sz : Nat) (hWT : WT L kd tys f0) (a0_ : Nat) (ma0_ : a0_ ∈ L) (ka0_ : kd a0_ = 0) (x1_ : Int32) (q0_ : Nat) (mq0_ : q0_ ∈ L) (kq0_ : kd q0_ = 8) (q1_ : Nat) (mq1_ : q1_ ∈ L) (kq1_ : kd q1_ = 7) (y0_ : Int32) (by0_ : bd 0 0 y0_) (hfx : Fs L kd f0 [(0, 0, a0_, .ref q0_), (0, 2, a0_, .ref q1_), (8, 8, q0_, .int y0_)]) : Met l yX0_closeParts (.code yX0_closeParts cX0_closeParts 7 none :: lw_g) ({ frames := 1, cells := 0, slots := 0, locals := 23 }) (va_Pc [.ref a0_, .int x1_] (P3 (dC, dI) L tys f0 sz)) (va_Qv (fun (f : Nat → va_E) => (Fs L kd f [(8, 8, q0_, .int y0_)]) ∨ (∃ z1_ : Int32, bd 1 7 z1_ ∧ ∃ z3_ : Int32, bd 1 300 z3_ ∧ ∃ z4_ : Int32, bd 1 2000 z4_ ∧ ∃ z5_ : Int32, bd 0 299 z5_ ∧ Fs L kd f [(8, 6, q0_, .int 1201), (8, 8, q0_, .int z1_), (0, 12, a0_, .int 0), (0, 10, a0_, .int z3_), (7, 6, q1_, .int z4_), (0, 8, a0_, .int z5_)])) (Q3 (dC, dI) L kd tys [(0, 8), (0, 10), (0, 11), (0, 12), (7, 6), (8, 6), (8, 8), (8, 9)] [115, 138, 139] f0 sz) (pA L sz)) 0 0 (pA L sz) := by
  refine Met.ofW (cc := cX0_closeParts) (maxL := 7) (ret := none) (by decide) rfl ?_
  intro p e s m args below meth c s₁ B hml hv
  obtain ⟨rfl, hsz, hP, hK, hD0⟩ := hv
  have hx := B.exec
  have hb := B.bytes
  have hr := B.returns
  have hts := atoms_spec (ws := (.code yX0_closeParts cX0_closeParts 7 none :: lw_g)) B.pre
  have hown : s.vm.findClass RX0 = some m.cls := findClass_of_methodNamed B.named
  have hlocks := B.notSynchronized
  subst hsz
  have g : G3 (dC, dI) L kd tys s f0 [(0, 8), (0, 10), (0, 11), (0, 12), (7, 6), (8, 6), (8, 8), (8, 9)] [115, 138, 139] f0 s.heap [] [(0, 0, a0_, .ref q0_), (0, 2, a0_, .ref q1_), (8, 8, q0_, .int y0_)] := G3.start hP hD0 hWT hfx
  have hl := lv_entry ([.ref a0_, .int x1_]) (n := 7) (Nat.le_of_ble_eq_true rfl)
  rw [lg_entry_eq]
  generalize (lg_sl ([.ref a0_, .int x1_]) ++ List.replicate (7 - (lg_sl ([.ref a0_, .int x1_])).length) Slot.unset).toArray = ls at hl ⊢
  have hl : lv_has ls 7 [(0, .ref a0_), (1, .int x1_)] := hl
  refine W_q (fun Q hQ => ?_)
  refine lv_iconst (v := 1) hx hb dX0_closeParts_0 (by decide) ?_
  refine lv_istore_n (lv' := [(2, .int 1), (0, .ref a0_), (1, .int x1_)]) hx hb dX0_closeParts_1 rfl hl (by decide) rfl (fun ls hl => ?_)
  refine lv_iconst (v := 0) hx hb dX0_closeParts_2 (by decide) ?_
  refine lv_istore_n (lv' := [(3, .int 0), (2, .int 1), (0, .ref a0_), (1, .int x1_)]) hx hb dX0_closeParts_3 rfl hl (by decide) rfl (fun ls hl => ?_)
  have loop_1 : ∀ (n : Nat) (v4_3 : Int32) (v4_2 : Int32), bd 0 300 v4_3 → bd 0 1 v4_2 → (300 - v4_3.toInt < (n : Int)) → ∀ (f : Nat → va_E) (H : Heap) (locs : List Loc) (ls : Array Slot), G3 (dC, dI) L kd tys s f0 [(0, 8), (0, 10), (0, 11), (0, 12), (7, 6), (8, 6), (8, 8), (8, 9)] [115, 138, 139] f H locs [(0, 0, a0_, .ref q0_), (0, 2, a0_, .ref q1_), (8, 8, q0_, .int y0_)] → lv_has ls 7 [(3, .int v4_3), (2, .int v4_2), (0, .ref a0_), (1, .int x1_)] → W p l e ({ frames := 1, cells := 0, slots := 0, locals := 23 } : Room) s m [.ref a0_, .int x1_].toArray below meth c H locs 0 0 Q (F0 m 4 ls []) := by
    intro n4
    induction n4 with
    | zero =>
      intro v4_3 v4_2 bv4_3 bv4_2 hm4 f H locs ls g  hl
      exact absurd hm4 (by have h9_v4_3 := bv4_3; unfold bd at h9_v4_3; have h9_v4_2 := bv4_2; unfold bd at h9_v4_2; omega)
    | succ n4 ih4 =>
      intro v4_3 v4_2 bv4_3 bv4_2 hm4 f H locs ls g  hl
      refine lv_iload_n hx hb dX0_closeParts_4 rfl (lv_at hl 0 rfl) ?_
      refine lv_sipush (v := 300) hx hb dX0_closeParts_5 (by decide) ?_
      have kb_300 : bd 300 300 (300 : Int32) := ⟨by decide, by decide⟩
      refine lv_icmp_ge (tgt := 251) hx hb dX0_closeParts_8 (by decide) (fun c_2 => ?_) (fun c_2 => ?_)
      · have fc_2 := le_f c_2
        have b_3 : bd 300 300 v4_3 := leR fc_2 kb_300 bv4_3 (by decide)
        subst hQ
        exact W.vret hx hb hr (fun t ht hW => ⟨⟨_, rfl, Or.inl (g.fcts [2] rfl), q3_of g hK ht hW⟩, g.2.2.1.F ht⟩) g.2.2.1.2.2 dX0_closeParts_251
      · have fc_2 := nle_f c_2
        have b_4 : bd 0 299 v4_3 := ltL fc_2 bv4_3 kb_300 (by decide)
        refine lv_iload_n hx hb dX0_closeParts_11 rfl (lv_at hl 1 rfl) ?_
        have kb_0 : bd 0 0 (0 : Int32) := ⟨by decide, by decide⟩
        refine lv_if_eq (tgt := 251) hx hb dX0_closeParts_12 (by decide) (fun c_5 => ?_) (fun c_5 => ?_)
        · have fc_5 := eq_f c_5
          have b_6 : bd 0 0 v4_2 := eqX fc_5 bv4_2 kb_0 (by decide)
          subst hQ
          exact W.vret hx hb hr (fun t ht hW => ⟨⟨_, rfl, Or.inl (g.fcts [2] rfl), q3_of g hK ht hW⟩, g.2.2.1.F ht⟩) g.2.2.1.2.2 dX0_closeParts_251
        · have fc_5 := neq_f c_5
          have b_7 : bd 1 1 v4_2 := neX fc_5 bv4_2 kb_0 (by decide)
          refine lv_aload_n hx hb dX0_closeParts_15 rfl (lv_at hl 2 rfl) ?_
          refine g_geti (C := RX0) (T := TX0) (N := 14) hx hb hts (mc_ inX0) hown hK g ma0_ ka0_ (by decide) rfl 8 (by decide) rfl (hts _ (List.mem_cons_of_mem _ t_381)) (fun _ h9 => h9) rfl dX0_closeParts_16 (fun x_8 bx_8 g => ?_)
          refine lv_if_le (tgt := 251) hx hb dX0_closeParts_19 (by decide) (fun c_9 => ?_) (fun c_9 => ?_)
          · have fc_9 := le_f c_9
            have b_10 : bd 0 0 x_8 := leL fc_9 bx_8 kb_0 (by decide)
            subst hQ
            exact W.vret hx hb hr (fun t ht hW => ⟨⟨_, rfl, Or.inl (g.fcts [3] rfl), q3_of g hK ht hW⟩, g.2.2.1.F ht⟩) g.2.2.1.2.2 dX0_closeParts_251
          · have fc_9 := nle_f c_9
            have b_11 : bd 1 300 x_8 := ltR fc_9 kb_0 bx_8 (by decide)
            have join_12 : ∀ (j76_2 : Int32) (j76_5 : Int32) (j76_4 : Int32) (g76_0_3_a0_ : Nat) (f : Nat → va_E) (H : Heap) (locs : List Loc) (ls : Array Slot), bd 0 1 j76_2 → bd 0 1 j76_5 → g76_0_3_a0_ ∈ L → kd g76_0_3_a0_ = 110 → G3 (dC, dI) L kd tys s f0 [(0, 8), (0, 10), (0, 11), (0, 12), (7, 6), (8, 6), (8, 8), (8, 9)] [115, 138, 139] f H locs [(0, 3, a0_, .ref g76_0_3_a0_), (0, 8, a0_, .int x_8), (0, 0, a0_, .ref q0_), (0, 2, a0_, .ref q1_), (8, 8, q0_, .int y0_)] → lv_has ls 7 [(2, .int j76_2), (5, .int j76_5), (4, .int j76_4), (3, .int v4_3), (0, .ref a0_), (1, .int x1_)] → W p l e ({ frames := 1, cells := 0, slots := 0, locals := 23 } : Room) s m [.ref a0_, .int x1_].toArray below meth c H locs 0 0 Q (F0 m 76 ls []) := by
              intro j76_2 j76_5 j76_4 g76_0_3_a0_ f H locs ls bj76_2 bj76_5  mg76_0_3_a0_ kg76_0_3_a0_ g  hl
              refine lv_iload_n hx hb dX0_closeParts_76 rfl (lv_at hl 0 rfl) ?_
              refine lv_if_eq (tgt := 245) hx hb dX0_closeParts_77 (by decide) (fun c_13 => ?_) (fun c_13 => ?_)
              · have fc_13 := eq_f c_13
                have b_14 : bd 0 0 j76_2 := eqX fc_13 bj76_2 kb_0 (by decide)
                have kb_1 : bd 1 1 (1 : Int32) := ⟨by decide, by decide⟩
                obtain ⟨y_15, ey_15⟩ : ∃ z : Int32, z = v4_3 + 1 := ⟨_, rfl⟩
                refine lv_iinc (v := y_15) (lv' := [(3, .int y_15), (2, .int j76_2), (5, .int j76_5), (4, .int j76_4), (0, .ref a0_), (1, .int x1_)]) hx hb dX0_closeParts_245 hl (k := 3) rfl (by rw [ey_15]; rfl) (by decide) rfl (fun ls hl => ?_)
                have ty_15 := add_bd ey_15 b_4 kb_1 (by decide)
                have b_16 : bd 1 300 y_15 := add_rg ty_15 b_4 kb_1 (by decide)
                refine lv_goto (tgt := 4) hx hb dX0_closeParts_248 (by decide) ?_
                have hl9 := lv_sub hl [0, 1, 4, 5] (by rfl : lv_pick [(3, .int y_15), (2, .int j76_2), (5, .int j76_5), (4, .int j76_4), (0, .ref a0_), (1, .int x1_)] [0, 1, 4, 5] = [(3, .int y_15), (2, .int j76_2), (0, .ref a0_), (1, .int x1_)])
                have g9 := g.sub (fx' := [(0, 0, a0_, .ref q0_), (0, 2, a0_, .ref q1_), (8, 8, q0_, .int y0_)]) [2, 3, 4] rfl
                exact ih4  y_15 j76_2 (bd_sub b_16 (by decide)) (bd_sub b_14 (by decide)) (by have h9_0 := b_14; unfold bd at h9_0; have h9_1 := b_16; unfold bd at h9_1; have h9_2 := bv4_2; unfold bd at h9_2; have h9_3 := bv4_3; unfold bd at h9_3; have h9_4 := kb_0; unfold bd at h9_4; have h9_5 := kb_1; unfold bd at h9_5; have h9_6 := kb_300; unfold bd at h9_6; omega) _ _ _ _ g9  hl9
              · have fc_13 := neq_f c_13
                have b_17 : bd 1 1 j76_2 := neX fc_13 bj76_2 kb_0 (by decide)
                have join_18 : ∀ (j191_6 : Int32) (g191_7_6_q1_ : Int32) (g191_0_10_a0_ : Int32) (g191_0_8_a0_ : Int32) (f : Nat → va_E) (H : Heap) (locs : List Loc) (ls : Array Slot), bd 1 2000 g191_7_6_q1_ → bd 0 299 g191_0_10_a0_ → bd 0 299 g191_0_8_a0_ → G3 (dC, dI) L kd tys s f0 [(0, 8), (0, 10), (0, 11), (0, 12), (7, 6), (8, 6), (8, 8), (8, 9)] [115, 138, 139] f H locs [(7, 6, q1_, .int g191_7_6_q1_), (0, 10, a0_, .int g191_0_10_a0_), (0, 8, a0_, .int g191_0_8_a0_), (0, 3, a0_, .ref g76_0_3_a0_), (0, 0, a0_, .ref q0_), (0, 2, a0_, .ref q1_), (8, 8, q0_, .int y0_)] → lv_has ls 7 [(6, .int j191_6), (2, .int j76_2), (5, .int j76_5), (4, .int j76_4), (3, .int v4_3), (0, .ref a0_), (1, .int x1_)] → W p l e ({ frames := 1, cells := 0, slots := 0, locals := 23 } : Room) s m [.ref a0_, .int x1_].toArray below meth c H locs 0 0 Q (F0 m 191 ls []) := by
                  intro j191_6 g191_7_6_q1_ g191_0_10_a0_ g191_0_8_a0_ f H locs ls  bg191_7_6_q1_ bg191_0_10_a0_ bg191_0_8_a0_ g  hl
                  refine lv_iconst (v := 1) hx hb dX0_closeParts_191 (by decide) ?_
                  refine lv_iload hx hb dX0_closeParts_192 (lv_at hl 2 rfl) ?_
                  refine lv_if_eq (tgt := 202) hx hb dX0_closeParts_194 (by decide) (fun c_19 => ?_) (fun c_19 => ?_)
                  · have fc_19 := eq_f c_19
                    have b_20 : bd 0 0 j76_5 := eqX fc_19 bj76_5 kb_0 (by decide)
                    refine lv_iload hx hb dX0_closeParts_202 (lv_at hl 0 rfl) ?_
                    refine lv_aload_n hx hb dX0_closeParts_204 rfl (lv_at hl 5 rfl) ?_
                    refine g_calli (va_runV (As := []) (rest := [.int j191_6, .int 1]) ⟨hx, hb, hml, hown, hts⟩ (r_X0_takeHeight l dC dI L kd tys f H.size g.2.2.2.1 a0_ ma0_ ka0_) (cwV 0 hts (gV_ t_1199 t_1201 t_16 t_190 t_1202) rfl rfl rfl (by decide +kernel) ⟨(Nat.le_of_ble_eq_true rfl), (Nat.le_of_ble_eq_true rfl)⟩) (pre3V g hK ma0_ ka0_ (by decide) (q := (RX0, TX0, 14)) rfl) rfl rfl hl.1 rfl (lv_room (Nat.le_of_ble_eq_true rfl)) dX0_closeParts_205 ⟨(Nat.le_of_ble_eq_true rfl), (Nat.le_of_ble_eq_true rfl)⟩) g hK (by decide) (by decide) (fx' := [(7, 6, q1_, .int g191_7_6_q1_), (0, 8, a0_, .int g191_0_8_a0_), (0, 3, a0_, .ref g76_0_3_a0_), (0, 0, a0_, .ref q0_), (0, 2, a0_, .ref q1_), (8, 8, q0_, .int y0_)]) rfl (fun r_21 fr_21 H locs hp hMr_21 g => ?_)
                    obtain ⟨x_22, h_23, hF_24⟩ := hp
                    have g := g.more hF_24
                    refine va_mmax hx hb (hml.trans hl.1.symm) hown (hts _ (List.mem_cons_of_mem _ t_1194)) (hts _ (List.mem_cons_of_mem _ t_1041)) (hts _ (List.mem_cons_of_mem _ t_204)) (hts _ (List.mem_cons_of_mem _ t_1042)) (Nat.le_of_ble_eq_true rfl) (Nat.le_of_ble_eq_true rfl) (Nat.le_of_ble_eq_true rfl) (Nat.le_of_ble_eq_true rfl) dX0_closeParts_208 ?_
                    refine lv_topi (fun y_25 ey_25 => ?_)
                    have ty_25 : y_25.toInt = max j191_6.toInt r_21.toInt := by rw [ey_25]; exact mmax_ok _ _
                    have b_26 : bd (-2147483648) 2147483647 y_25 := max_rg ty_25 (bdT j191_6) (bdT r_21) (by decide)
                    have kb_1 : bd 1 1 (1 : Int32) := ⟨by decide, by decide⟩
                    refine lv_iadd hx hb dX0_closeParts_211 ?_
                    refine lv_topi (fun y_27 ey_27 => ?_)
                    refine lv_istore (lv' := [(6, .int y_27), (2, .int j76_2), (5, .int j76_5), (4, .int j76_4), (3, .int v4_3), (0, .ref a0_), (1, .int x1_)]) hx hb dX0_closeParts_212 hl (by decide) rfl (fun ls hl => ?_)
                    refine lv_aload_n hx hb dX0_closeParts_214 rfl (lv_at hl 5 rfl) ?_
                    refine lv_iload hx hb dX0_closeParts_215 (lv_at hl 0 rfl) ?_
                    refine g_callv (va_runV (As := [.int y_27]) (rest := []) ⟨hx, hb, hml, hown, hts⟩ (r_X0_addWhole l dC dI L kd tys fr_21 H.size g.2.2.2.1 a0_ ma0_ ka0_ y_27) (cwV 1 hts (gV_ t_1211 t_1213 t_17 t_190 t_1214) rfl rfl rfl (by decide +kernel) ⟨(Nat.le_of_ble_eq_true rfl), (Nat.le_of_ble_eq_true rfl)⟩) (pre3V g hK ma0_ ka0_ (by decide) (q := (RX0, TX0, 14)) rfl) rfl rfl hl.1 rfl (lv_room (Nat.le_of_ble_eq_true rfl)) dX0_closeParts_217 ⟨(Nat.le_of_ble_eq_true rfl), (Nat.le_of_ble_eq_true rfl)⟩) g hK (by decide) (by decide) (fx' := [(7, 6, q1_, .int g191_7_6_q1_), (0, 8, a0_, .int g191_0_8_a0_), (0, 3, a0_, .ref g76_0_3_a0_), (0, 0, a0_, .ref q0_), (0, 2, a0_, .ref q1_), (8, 8, q0_, .int y0_)]) rfl (fun fr_28 H locs hp hMr_28 g => ?_)
                    obtain ⟨x_29, h_30, hF_31⟩ := hp
                    have g := g.more hF_31
                    refine lv_iload hx hb dX0_closeParts_220 (lv_at hl 0 rfl) ?_
                    refine lv_bipush (v := 12) hx hb dX0_closeParts_222 (by decide) ?_
                    have kb_12 : bd 12 12 (12 : Int32) := ⟨by decide, by decide⟩
                    refine lv_icmp_le (tgt := 245) hx hb dX0_closeParts_224 (by decide) (fun c_32 => ?_) (fun c_32 => ?_)
                    · have fc_32 := le_f c_32
                      have b_33 : bd (-2147483648) 12 y_27 := leL fc_32 (bdT y_27) kb_12 (by decide)
                      obtain ⟨y_34, ey_34⟩ : ∃ z : Int32, z = v4_3 + 1 := ⟨_, rfl⟩
                      refine lv_iinc (v := y_34) (lv' := [(3, .int y_34), (6, .int y_27), (2, .int j76_2), (5, .int j76_5), (4, .int j76_4), (0, .ref a0_), (1, .int x1_)]) hx hb dX0_closeParts_245 hl (k := 4) rfl (by rw [ey_34]; rfl) (by decide) rfl (fun ls hl => ?_)
                      have ty_34 := add_bd ey_34 b_4 kb_1 (by decide)
                      have b_35 : bd 1 300 y_34 := add_rg ty_34 b_4 kb_1 (by decide)
                      refine lv_goto (tgt := 4) hx hb dX0_closeParts_248 (by decide) ?_
                      have hl9 := lv_sub hl [0, 2, 5, 6] (by rfl : lv_pick [(3, .int y_34), (6, .int y_27), (2, .int j76_2), (5, .int j76_5), (4, .int j76_4), (0, .ref a0_), (1, .int x1_)] [0, 2, 5, 6] = [(3, .int y_34), (2, .int j76_2), (0, .ref a0_), (1, .int x1_)])
                      have g9 := g.sub (fx' := [(0, 0, a0_, .ref q0_), (0, 2, a0_, .ref q1_), (8, 8, q0_, .int y0_)]) [5, 6, 7] rfl
                      exact ih4  y_34 j76_2 (bd_sub b_35 (by decide)) (bd_sub b_17 (by decide)) (by have h9_0 := b_17; unfold bd at h9_0; have h9_1 := b_35; unfold bd at h9_1; have h9_2 := bv4_2; unfold bd at h9_2; have h9_3 := bv4_3; unfold bd at h9_3; have h9_4 := kb_0; unfold bd at h9_4; have h9_5 := kb_1; unfold bd at h9_5; have h9_6 := kb_12; unfold bd at h9_6; have h9_7 := kb_300; unfold bd at h9_7; omega) _ _ _ _ g9  hl9
                    · have fc_32 := nle_f c_32
                      have b_36 : bd 13 2147483647 y_27 := ltR fc_32 kb_12 (bdT y_27) (by decide)
                      refine lv_aload_n hx hb dX0_closeParts_227 rfl (lv_at hl 5 rfl) ?_
                      refine g_getk (C := RX0) (T := TX0) (N := 14) hx hb hts (mc_ inX0) hown hK g rfl 0 (by decide) rfl (hts _ (List.mem_cons_of_mem _ t_373)) (fun _ h9 => h9) 5 rfl dX0_closeParts_228 ?_
                      refine lv_bipush (v := 7) hx hb dX0_closeParts_231 (by decide) ?_
                      refine lv_aload_n hx hb dX0_closeParts_233 rfl (lv_at hl 5 rfl) ?_
                      refine g_getr (K := 111) (C := RX0) (T := TX0) (N := 14) hx hb hts (mc_ inX0) hown hK g ma0_ ka0_ (by decide) rfl 4 (by decide) rfl (hts _ (List.mem_cons_of_mem _ t_377)) (fun _ h9 => h9) rfl dX0_closeParts_234 (fun a_37 ma_37 ka_37 g => ?_)
                      refine lv_aload_n hx hb dX0_closeParts_237 rfl (lv_at hl 5 rfl) ?_
                      refine g_getk (C := RX0) (T := TX0) (N := 14) hx hb hts (mc_ inX0) hown hK g rfl 8 (by decide) rfl (hts _ (List.mem_cons_of_mem _ t_381)) (fun _ h9 => h9) 4 rfl dX0_closeParts_238 ?_
                      refine g_iald hx hb hK g ma_37 ka_37 (by decide) rfl (in_bd bg191_0_8_a0_ (by decide)) dX0_closeParts_241 (fun x_38 bx_38 cx_38 => ?_)
                      have kb_7 : bd 7 7 (7 : Int32) := ⟨by decide, by decide⟩
                      refine g_callv (va_runV (As := [.int 7, .int x_38]) (rest := []) ⟨hx, hb, hml, hown, hts⟩ (r_X8_fail l dC dI L kd tys fr_28 H.size g.2.2.2.1 q0_ mq0_ kq0_ 7 (bd_sub kb_7 (by decide)) x_38 y0_ by0_ (g.fcts [8] rfl)) (cwV 2 hts (gV_ t_1215 t_1107 t_1108 t_184 t_1109) rfl rfl rfl (by decide +kernel) ⟨(Nat.le_of_ble_eq_true rfl), (Nat.le_of_ble_eq_true rfl)⟩) (pre3V g hK mq0_ kq0_ (by decide) (q := (RX8, TX8, 10)) rfl) rfl rfl hl.1 rfl (lv_room (Nat.le_of_ble_eq_true rfl)) dX0_closeParts_242 ⟨(Nat.le_of_ble_eq_true rfl), (Nat.le_of_ble_eq_true rfl)⟩) g hK (by decide) (by decide) (fx' := [(0, 4, a0_, .ref a_37), (0, 12, a0_, .int 0), (0, 10, a0_, .int x_29), (7, 6, q1_, .int g191_7_6_q1_), (0, 8, a0_, .int g191_0_8_a0_), (0, 3, a0_, .ref g76_0_3_a0_), (0, 0, a0_, .ref q0_), (0, 2, a0_, .ref q1_)]) rfl (fun fr_39 H locs hp hMr_39 g => ?_)
                      obtain ⟨x_40, h_41, hF_42⟩ := hp
                      have g := g.more hF_42
                      obtain ⟨y_43, ey_43⟩ : ∃ z : Int32, z = v4_3 + 1 := ⟨_, rfl⟩
                      refine lv_iinc (v := y_43) (lv' := [(3, .int y_43), (6, .int y_27), (2, .int j76_2), (5, .int j76_5), (4, .int j76_4), (0, .ref a0_), (1, .int x1_)]) hx hb dX0_closeParts_245 hl (k := 4) rfl (by rw [ey_43]; rfl) (by decide) rfl (fun ls hl => ?_)
                      have ty_43 := add_bd ey_43 b_4 kb_1 (by decide)
                      have b_44 : bd 1 300 y_43 := add_rg ty_43 b_4 kb_1 (by decide)
                      refine lv_goto (tgt := 4) hx hb dX0_closeParts_248 (by decide) ?_
                      have loop_45 : ∀ (n : Nat) (v4_3 : Int32) (v4_6 : Int32) (v4_2 : Int32) (v4_5 : Int32) (v4_4 : Int32) (w4_0_10_a0_ : Int32) (w4_7_6_q1_ : Int32) (w4_0_8_a0_ : Int32), bd 1 300 v4_3 → bd 0 1 v4_2 → bd 0 1 v4_5 → bd 1 300 w4_0_10_a0_ → bd 1 2000 w4_7_6_q1_ → bd 0 299 w4_0_8_a0_ → (300 - v4_3.toInt < (n : Int)) → ∀ (f : Nat → va_E) (H : Heap) (locs : List Loc) (ls : Array Slot), G3 (dC, dI) L kd tys s f0 [(0, 8), (0, 10), (0, 11), (0, 12), (7, 6), (8, 6), (8, 8), (8, 9)] [115, 138, 139] f H locs [(8, 6, q0_, .int 1201), (8, 8, q0_, .int x_40), (0, 4, a0_, .ref a_37), (0, 12, a0_, .int 0), (0, 10, a0_, .int w4_0_10_a0_), (7, 6, q1_, .int w4_7_6_q1_), (0, 8, a0_, .int w4_0_8_a0_), (0, 3, a0_, .ref g76_0_3_a0_), (0, 0, a0_, .ref q0_), (0, 2, a0_, .ref q1_)] → lv_has ls 7 [(3, .int v4_3), (6, .int v4_6), (2, .int v4_2), (5, .int v4_5), (4, .int v4_4), (0, .ref a0_), (1, .int x1_)] → W p l e ({ frames := 1, cells := 0, slots := 0, locals := 23 } : Room) s m [.ref a0_, .int x1_].toArray below meth c H locs 0 0 Q (F0 m 4 ls []) := by
                        intro n4
                        induction n4 with
                        | zero =>
                          intro v4_3 v4_6 v4_2 v4_5 v4_4 w4_0_10_a0_ w4_7_6_q1_ w4_0_8_a0_ bv4_3  bv4_2 bv4_5  bw4_0_10_a0_ bw4_7_6_q1_ bw4_0_8_a0_ hm4 f H locs ls g  hl
                          exact absurd hm4 (by have h9_v4_3 := bv4_3; unfold bd at h9_v4_3; have h9_v4_6 := bdT v4_6; unfold bd at h9_v4_6; have h9_v4_2 := bv4_2; unfold bd at h9_v4_2; have h9_v4_5 := bv4_5; unfold bd at h9_v4_5; have h9_v4_4 := bdT v4_4; unfold bd at h9_v4_4; have h9_w4_0_10_a0_ := bw4_0_10_a0_; unfold bd at h9_w4_0_10_a0_; have h9_w4_7_6_q1_ := bw4_7_6_q1_; unfold bd at h9_w4_7_6_q1_; have h9_w4_0_8_a0_ := bw4_0_8_a0_; unfold bd at h9_w4_0_8_a0_; omega)
                        | succ n4 ih4 =>
                          intro v4_3 v4_6 v4_2 v4_5 v4_4 w4_0_10_a0_ w4_7_6_q1_ w4_0_8_a0_ bv4_3  bv4_2 bv4_5  bw4_0_10_a0_ bw4_7_6_q1_ bw4_0_8_a0_ hm4 f H locs ls g  hl
                          refine lv_iload_n hx hb dX0_closeParts_4 rfl (lv_at hl 0 rfl) ?_
                          refine lv_sipush (v := 300) hx hb dX0_closeParts_5 (by decide) ?_
                          refine lv_icmp_ge (tgt := 251) hx hb dX0_closeParts_8 (by decide) (fun c_46 => ?_) (fun c_46 => ?_)
                          · have fc_46 := le_f c_46
                            have b_47 : bd 300 300 v4_3 := leR fc_46 kb_300 bv4_3 (by decide)
                            subst hQ
                            exact W.vret hx hb hr (fun t ht hW => ⟨⟨_, rfl, Or.inr (⟨x_40, h_41, w4_0_10_a0_, bw4_0_10_a0_, w4_7_6_q1_, bw4_7_6_q1_, w4_0_8_a0_, bw4_0_8_a0_, (g.fcts [0, 1, 3, 4, 5, 6] rfl)⟩), q3_of g hK ht hW⟩, g.2.2.1.F ht⟩) g.2.2.1.2.2 dX0_closeParts_251
                          · have fc_46 := nle_f c_46
                            have b_48 : bd 1 299 v4_3 := ltL fc_46 bv4_3 kb_300 (by decide)
                            refine lv_iload_n hx hb dX0_closeParts_11 rfl (lv_at hl 2 rfl) ?_
                            refine lv_if_eq (tgt := 251) hx hb dX0_closeParts_12 (by decide) (fun c_49 => ?_) (fun c_49 => ?_)
                            · have fc_49 := eq_f c_49
                              have b_50 : bd 0 0 v4_2 := eqX fc_49 bv4_2 kb_0 (by decide)
                              subst hQ
                              exact W.vret hx hb hr (fun t ht hW => ⟨⟨_, rfl, Or.inr (⟨x_40, h_41, w4_0_10_a0_, bw4_0_10_a0_, w4_7_6_q1_, bw4_7_6_q1_, w4_0_8_a0_, bw4_0_8_a0_, (g.fcts [0, 1, 3, 4, 5, 6] rfl)⟩), q3_of g hK ht hW⟩, g.2.2.1.F ht⟩) g.2.2.1.2.2 dX0_closeParts_251
                            · have fc_49 := neq_f c_49
                              have b_51 : bd 1 1 v4_2 := neX fc_49 bv4_2 kb_0 (by decide)
                              refine lv_aload_n hx hb dX0_closeParts_15 rfl (lv_at hl 5 rfl) ?_
                              refine g_getk (C := RX0) (T := TX0) (N := 14) hx hb hts (mc_ inX0) hown hK g rfl 8 (by decide) rfl (hts _ (List.mem_cons_of_mem _ t_381)) (fun _ h9 => h9) 6 rfl dX0_closeParts_16 ?_
                              refine lv_if_le (tgt := 251) hx hb dX0_closeParts_19 (by decide) (fun c_52 => ?_) (fun c_52 => ?_)
                              · have fc_52 := le_f c_52
                                have b_53 : bd 0 0 w4_0_8_a0_ := leL fc_52 bw4_0_8_a0_ kb_0 (by decide)
                                subst hQ
                                exact W.vret hx hb hr (fun t ht hW => ⟨⟨_, rfl, Or.inr (⟨x_40, h_41, w4_0_10_a0_, bw4_0_10_a0_, w4_7_6_q1_, bw4_7_6_q1_, w4_0_8_a0_, (bd_sub b_53 (by decide)), (g.fcts [0, 1, 3, 4, 5, 6] rfl)⟩), q3_of g hK ht hW⟩, g.2.2.1.F ht⟩) g.2.2.1.2.2 dX0_closeParts_251
                              · have fc_52 := nle_f c_52
                                have b_54 : bd 1 299 w4_0_8_a0_ := ltR fc_52 kb_0 bw4_0_8_a0_ (by decide)
                                refine lv_aload_n hx hb dX0_closeParts_22 rfl (lv_at hl 5 rfl) ?_
                                refine g_getk (C := RX0) (T := TX0) (N := 14) hx hb hts (mc_ inX0) hown hK g rfl 3 (by decide) rfl (hts _ (List.mem_cons_of_mem _ t_376)) (fun _ h9 => h9) 7 rfl dX0_closeParts_23 ?_
                                refine lv_aload_n hx hb dX0_closeParts_26 rfl (lv_at hl 5 rfl) ?_
                                refine g_getk (C := RX0) (T := TX0) (N := 14) hx hb hts (mc_ inX0) hown hK g rfl 8 (by decide) rfl (hts _ (List.mem_cons_of_mem _ t_381)) (fun _ h9 => h9) 6 rfl dX0_closeParts_27 ?_
                                refine lv_iconst (v := 1) hx hb dX0_closeParts_30 (by decide) ?_
                                refine lv_isub hx hb dX0_closeParts_31 ?_
                                refine lv_topi (fun y_55 ey_55 => ?_)
                                have ty_55 := sub_bd ey_55 b_54 kb_1 (by decide)
                                have b_56 : bd 0 298 y_55 := sub_rg ty_55 b_54 kb_1 (by decide)
                                refine g_iald hx hb hK g mg76_0_3_a0_ kg76_0_3_a0_ (by decide) rfl (in_bd b_56 (by decide)) dX0_closeParts_32 (fun x_57 bx_57 cx_57 => ?_)
                                refine lv_istore (lv' := [(4, .int x_57), (3, .int v4_3), (6, .int v4_6), (2, .int v4_2), (5, .int v4_5), (0, .ref a0_), (1, .int x1_)]) hx hb dX0_closeParts_33 hl (by decide) rfl (fun ls hl => ?_)
                                refine lv_iload hx hb dX0_closeParts_35 (lv_at hl 0 rfl) ?_
                                refine lv_bipush (v := 6) hx hb dX0_closeParts_37 (by decide) ?_
                                have kb_6 : bd 6 6 (6 : Int32) := ⟨by decide, by decide⟩
                                refine lv_icmp_eq (tgt := 49) hx hb dX0_closeParts_39 (by decide) (fun c_58 => ?_) (fun c_58 => ?_)
                                · have fc_58 := eq_f c_58
                                  have b_59 : bd 6 6 x_57 := eqX fc_58 (bdT x_57) kb_6 (by decide)
                                  refine lv_iconst (v := 1) hx hb dX0_closeParts_49 (by decide) ?_
                                  refine lv_goto (tgt := 54) hx hb dX0_closeParts_50 (by decide) ?_
                                  refine lv_istore (lv' := [(5, .int 1), (4, .int x_57), (3, .int v4_3), (6, .int v4_6), (2, .int v4_2), (0, .ref a0_), (1, .int x1_)]) hx hb dX0_closeParts_54 hl (by decide) rfl (fun ls hl => ?_)
                                  refine lv_iload hx hb dX0_closeParts_56 (lv_at hl 0 rfl) ?_
                                  refine lv_if_ne (tgt := 70) hx hb dX0_closeParts_58 (by decide) (fun c_ => ?_) (fun c_ => absurd c_ (by decide))
                                  refine lv_iconst (v := 1) hx hb dX0_closeParts_70 (by decide) ?_
                                  refine lv_goto (tgt := 75) hx hb dX0_closeParts_71 (by decide) ?_
                                  refine lv_istore_n (lv' := [(2, .int 1), (5, .int 1), (4, .int x_57), (3, .int v4_3), (6, .int v4_6), (0, .ref a0_), (1, .int x1_)]) hx hb dX0_closeParts_75 rfl hl (by decide) rfl (fun ls hl => ?_)
                                  refine lv_iload_n hx hb dX0_closeParts_76 rfl (lv_at hl 0 rfl) ?_
                                  refine lv_if_eq (tgt := 245) hx hb dX0_closeParts_77 (by decide) (fun c_ => absurd c_ (by decide)) (fun c_ => ?_)
                                  refine lv_aload_n hx hb dX0_closeParts_80 rfl (lv_at hl 5 rfl) ?_
                                  refine lv_dup hx hb dX0_closeParts_81 rfl ?_
                                  refine g_getk (C := RX0) (T := TX0) (N := 14) hx hb hts (mc_ inX0) hown hK g rfl 8 (by decide) rfl (hts _ (List.mem_cons_of_mem _ t_381)) (fun _ h9 => h9) 6 rfl dX0_closeParts_82 ?_
                                  refine lv_iconst (v := 1) hx hb dX0_closeParts_85 (by decide) ?_
                                  refine lv_isub hx hb dX0_closeParts_86 ?_
                                  refine lv_topi (fun y_60 ey_60 => ?_)
                                  obtain rfl : y_55 = y_60 := ey_55.trans ey_60.symm
                                  refine g_put (C := RX0) (T := TX0) (N := 14) hx hb hts (mc_ inX0) tyX0 tyX0_ok nmX0 hown hK g ma0_ ka0_ (by decide) rfl 8 (by decide) (hts _ (List.mem_cons_of_mem _ t_381)) (fun _ h9 => h9) rfl rfl (okV_i (bd_sub b_56 (by decide))) rfl rfl (by decide) (Or.inr (Or.inl (by decide))) (fx' := [(8, 6, q0_, .int 1201), (8, 8, q0_, .int x_40), (0, 4, a0_, .ref a_37), (0, 12, a0_, .int 0), (0, 10, a0_, .int w4_0_10_a0_), (7, 6, q1_, .int w4_7_6_q1_), (0, 3, a0_, .ref g76_0_3_a0_), (0, 0, a0_, .ref q0_), (0, 2, a0_, .ref q1_)]) rfl dX0_closeParts_87 (fun f H locs hM_61 g => ?_)
                                  refine lv_aload_n hx hb dX0_closeParts_90 rfl (lv_at hl 5 rfl) ?_
                                  refine g_calli (va_runV (As := []) (rest := []) ⟨hx, hb, hml, hown, hts⟩ (r_X0_takeHeight l dC dI L kd tys f H.size g.2.2.2.1 a0_ ma0_ ka0_) (cwV 0 hts (gV_ t_1199 t_1201 t_16 t_190 t_1202) rfl rfl rfl (by decide +kernel) ⟨(Nat.le_of_ble_eq_true rfl), (Nat.le_of_ble_eq_true rfl)⟩) (pre3V g hK ma0_ ka0_ (by decide) (q := (RX0, TX0, 14)) rfl) rfl rfl hl.1 rfl (lv_room (Nat.le_of_ble_eq_true rfl)) dX0_closeParts_91 ⟨(Nat.le_of_ble_eq_true rfl), (Nat.le_of_ble_eq_true rfl)⟩) g hK (by decide) (by decide) (fx' := [(0, 8, a0_, .int y_55), (8, 6, q0_, .int 1201), (8, 8, q0_, .int x_40), (0, 4, a0_, .ref a_37), (0, 12, a0_, .int 0), (7, 6, q1_, .int w4_7_6_q1_), (0, 3, a0_, .ref g76_0_3_a0_), (0, 0, a0_, .ref q0_), (0, 2, a0_, .ref q1_)]) rfl (fun r_62 fr_62 H locs hp hMr_62 g => ?_)
                                  obtain ⟨x_63, h_64, hF_65⟩ := hp
                                  have g := g.more hF_65
                                  refine lv_istore (lv' := [(6, .int r_62), (2, .int 1), (5, .int 1), (4, .int x_57), (3, .int v4_3), (0, .ref a0_), (1, .int x1_)]) hx hb dX0_closeParts_94 hl (by decide) rfl (fun ls hl => ?_)
                                  refine lv_iload hx hb dX0_closeParts_96 (lv_at hl 2 rfl) ?_
                                  refine lv_if_eq (tgt := 136) hx hb dX0_closeParts_98 (by decide) (fun c_ => absurd c_ (by decide)) (fun c_ => ?_)
                                  refine lv_aload_n hx hb dX0_closeParts_101 rfl (lv_at hl 5 rfl) ?_
                                  refine lv_dup hx hb dX0_closeParts_102 rfl ?_
                                  refine g_geti (C := RX0) (T := TX0) (N := 14) hx hb hts (mc_ inX0) hown hK g ma0_ ka0_ (by decide) rfl 11 (by decide) rfl (hts _ (List.mem_cons_of_mem _ t_384)) (fun _ h9 => h9) rfl dX0_closeParts_103 (fun x_66 bx_66 g => ?_)
                                  refine lv_iconst (v := 1) hx hb dX0_closeParts_106 (by decide) ?_
                                  refine lv_isub hx hb dX0_closeParts_107 ?_
                                  refine lv_topi (fun y_67 ey_67 => ?_)
                                  refine g_put (C := RX0) (T := TX0) (N := 14) hx hb hts (mc_ inX0) tyX0 tyX0_ok nmX0 hown hK g ma0_ ka0_ (by decide) rfl 11 (by decide) (hts _ (List.mem_cons_of_mem _ t_384)) (fun _ h9 => h9) rfl rfl (okV_i (bdT y_67)) rfl rfl (by decide) (Or.inr (Or.inl (by decide))) (fx' := [(0, 10, a0_, .int x_63), (0, 8, a0_, .int y_55), (8, 6, q0_, .int 1201), (8, 8, q0_, .int x_40), (0, 4, a0_, .ref a_37), (0, 12, a0_, .int 0), (7, 6, q1_, .int w4_7_6_q1_), (0, 3, a0_, .ref g76_0_3_a0_), (0, 0, a0_, .ref q0_), (0, 2, a0_, .ref q1_)]) rfl dX0_closeParts_108 (fun f H locs hM_68 g => ?_)
                                  refine lv_aload_n hx hb dX0_closeParts_111 rfl (lv_at hl 5 rfl) ?_
                                  refine g_getk (C := RX0) (T := TX0) (N := 14) hx hb hts (mc_ inX0) hown hK g rfl 2 (by decide) rfl (hts _ (List.mem_cons_of_mem _ t_375)) (fun _ h9 => h9) 10 rfl dX0_closeParts_112 ?_
                                  refine lv_iload hx hb dX0_closeParts_115 (lv_at hl 3 rfl) ?_
                                  refine lv_bipush (v := 6) hx hb dX0_closeParts_117 (by decide) ?_
                                  refine lv_icmp_ne (tgt := 127) hx hb dX0_closeParts_119 (by decide) (fun c_69 => ?_) (fun c_69 => ?_)
                                  · have fc_69 := neq_f c_69
                                    have b_70 : bd 7 5 x_57 := neX fc_69 b_59 kb_6 (by decide)
                                    exact bd_no b_70 (by decide)
                                  · have fc_69 := eq_f c_69
                                    refine lv_bipush (v := 6) hx hb dX0_closeParts_122 (by decide) ?_
                                    refine lv_goto (tgt := 129) hx hb dX0_closeParts_124 (by decide) ?_
                                    refine lv_iconst (v := 0) hx hb dX0_closeParts_129 (by decide) ?_
                                    refine g_callv (va_runV (As := [.int 6, .int 0]) (rest := []) ⟨hx, hb, hml, hown, hts⟩ (r_X7_emit l dC dI L kd tys f H.size g.2.2.2.1 q1_ mq1_ kq1_ 6 0) (cwV 2 hts (gV_ t_1203 t_1204 t_1205 t_191 t_1206) rfl rfl rfl (by decide +kernel) ⟨(Nat.le_of_ble_eq_true rfl), (Nat.le_of_ble_eq_true rfl)⟩) (pre3V g hK mq1_ kq1_ (by decide) (q := (RX7, TX7, 19)) rfl) rfl rfl hl.1 rfl (lv_room (Nat.le_of_ble_eq_true rfl)) dX0_closeParts_130 ⟨(Nat.le_of_ble_eq_true rfl), (Nat.le_of_ble_eq_true rfl)⟩) g hK (by decide) (by decide) (fx' := [(0, 11, a0_, .int y_67), (0, 10, a0_, .int x_63), (0, 8, a0_, .int y_55), (8, 6, q0_, .int 1201), (8, 8, q0_, .int x_40), (0, 4, a0_, .ref a_37), (0, 12, a0_, .int 0), (0, 3, a0_, .ref g76_0_3_a0_), (0, 0, a0_, .ref q0_), (0, 2, a0_, .ref q1_)]) rfl (fun fr_71 H locs hp hMr_71 g => ?_)
                                    obtain ⟨x_72, h_73, hF_74⟩ := hp
                                    have g := g.more hF_74
                                    refine lv_goto (tgt := 191) hx hb dX0_closeParts_133 (by decide) ?_
                                    refine lv_iconst (v := 1) hx hb dX0_closeParts_191 (by decide) ?_
                                    refine lv_iload hx hb dX0_closeParts_192 (lv_at hl 2 rfl) ?_
                                    refine lv_if_eq (tgt := 202) hx hb dX0_closeParts_194 (by decide) (fun c_ => absurd c_ (by decide)) (fun c_ => ?_)
                                    refine lv_iload hx hb dX0_closeParts_197 (lv_at hl 0 rfl) ?_
                                    refine lv_goto (tgt := 211) hx hb dX0_closeParts_199 (by decide) ?_
                                    refine lv_iadd hx hb dX0_closeParts_211 ?_
                                    refine lv_topi (fun y_75 ey_75 => ?_)
                                    refine lv_istore (lv' := [(6, .int y_75), (2, .int 1), (5, .int 1), (4, .int x_57), (3, .int v4_3), (0, .ref a0_), (1, .int x1_)]) hx hb dX0_closeParts_212 hl (by decide) rfl (fun ls hl => ?_)
                                    refine lv_aload_n hx hb dX0_closeParts_214 rfl (lv_at hl 5 rfl) ?_
                                    refine lv_iload hx hb dX0_closeParts_215 (lv_at hl 0 rfl) ?_
                                    refine g_callv (va_runV (As := [.int y_75]) (rest := []) ⟨hx, hb, hml, hown, hts⟩ (r_X0_addWhole l dC dI L kd tys fr_71 H.size g.2.2.2.1 a0_ ma0_ ka0_ y_75) (cwV 1 hts (gV_ t_1211 t_1213 t_17 t_190 t_1214) rfl rfl rfl (by decide +kernel) ⟨(Nat.le_of_ble_eq_true rfl), (Nat.le_of_ble_eq_true rfl)⟩) (pre3V g hK ma0_ ka0_ (by decide) (q := (RX0, TX0, 14)) rfl) rfl rfl hl.1 rfl (lv_room (Nat.le_of_ble_eq_true rfl)) dX0_closeParts_217 ⟨(Nat.le_of_ble_eq_true rfl), (Nat.le_of_ble_eq_true rfl)⟩) g hK (by decide) (by decide) (fx' := [(7, 6, q1_, .int x_72), (0, 11, a0_, .int y_67), (0, 8, a0_, .int y_55), (8, 6, q0_, .int 1201), (8, 8, q0_, .int x_40), (0, 4, a0_, .ref a_37), (0, 3, a0_, .ref g76_0_3_a0_), (0, 0, a0_, .ref q0_), (0, 2, a0_, .ref q1_)]) rfl (fun fr_76 H locs hp hMr_76 g => ?_)
                                    obtain ⟨x_77, h_78, hF_79⟩ := hp
                                    have g := g.more hF_79
                                    refine lv_iload hx hb dX0_closeParts_220 (lv_at hl 0 rfl) ?_
                                    refine lv_bipush (v := 12) hx hb dX0_closeParts_222 (by decide) ?_
                                    refine lv_icmp_le (tgt := 245) hx hb dX0_closeParts_224 (by decide) (fun c_80 => ?_) (fun c_80 => ?_)
                                    · have fc_80 := le_f c_80
                                      have b_81 : bd (-2147483648) 12 y_75 := leL fc_80 (bdT y_75) kb_12 (by decide)
                                      obtain ⟨y_82, ey_82⟩ : ∃ z : Int32, z = v4_3 + 1 := ⟨_, rfl⟩
                                      refine lv_iinc (v := y_82) (lv' := [(3, .int y_82), (6, .int y_75), (2, .int 1), (5, .int 1), (4, .int x_57), (0, .ref a0_), (1, .int x1_)]) hx hb dX0_closeParts_245 hl (k := 4) rfl (by rw [ey_82]; rfl) (by decide) rfl (fun ls hl => ?_)
                                      have ty_82 := add_bd ey_82 b_48 kb_1 (by decide)
                                      have b_83 : bd 2 300 y_82 := add_rg ty_82 b_48 kb_1 (by decide)
                                      refine lv_goto (tgt := 4) hx hb dX0_closeParts_248 (by decide) ?_
                                      have hl9 := lv_sub hl [0, 1, 2, 3, 4, 5, 6] (by rfl : lv_pick [(3, .int y_82), (6, .int y_75), (2, .int 1), (5, .int 1), (4, .int x_57), (0, .ref a0_), (1, .int x1_)] [0, 1, 2, 3, 4, 5, 6] = [(3, .int y_82), (6, .int y_75), (2, .int 1), (5, .int 1), (4, .int x_57), (0, .ref a0_), (1, .int x1_)])
                                      have g9 := g.sub (fx' := [(8, 6, q0_, .int 1201), (8, 8, q0_, .int x_40), (0, 4, a0_, .ref a_37), (0, 12, a0_, .int 0), (0, 10, a0_, .int x_77), (7, 6, q1_, .int x_72), (0, 8, a0_, .int y_55), (0, 3, a0_, .ref g76_0_3_a0_), (0, 0, a0_, .ref q0_), (0, 2, a0_, .ref q1_)]) [5, 6, 7, 0, 1, 2, 4, 8, 9, 10] rfl
                                      exact ih4  y_82 y_75 1 1 x_57 x_77 x_72 y_55 (bd_sub b_83 (by decide)) (bd_sub kb_1 (by decide)) (bd_sub kb_1 (by decide)) h_78 h_73 (bd_sub b_56 (by decide)) (by have h9_0 := b_56; unfold bd at h9_0; have h9_1 := b_59; unfold bd at h9_1; have h9_2 := b_81; unfold bd at h9_2; have h9_3 := b_83; unfold bd at h9_3; have h9_4 := bdT v4_4; unfold bd at h9_4; have h9_5 := bdT v4_6; unfold bd at h9_5; have h9_6 := bv4_2; unfold bd at h9_6; have h9_7 := bv4_3; unfold bd at h9_7; have h9_8 := bv4_5; unfold bd at h9_8; have h9_9 := bw4_0_10_a0_; unfold bd at h9_9; have h9_10 := bw4_0_8_a0_; unfold bd at h9_10; have h9_11 := bw4_7_6_q1_; unfold bd at h9_11; have h9_12 := h_73; unfold bd at h9_12; have h9_13 := h_78; unfold bd at h9_13; have h9_14 := kb_0; unfold bd at h9_14; have h9_15 := kb_1; unfold bd at h9_15; have h9_16 := kb_12; unfold bd at h9_16; have h9_17 := kb_300; unfold bd at h9_17; have h9_18 := kb_6; unfold bd at h9_18; have h9_19 := kb_7; unfold bd at h9_19; omega) _ _ _ _ g9  hl9
                                    · have fc_80 := nle_f c_80
                                      have b_84 : bd 13 2147483647 y_75 := ltR fc_80 kb_12 (bdT y_75) (by decide)
                                      refine lv_aload_n hx hb dX0_closeParts_227 rfl (lv_at hl 5 rfl) ?_
                                      refine g_getk (C := RX0) (T := TX0) (N := 14) hx hb hts (mc_ inX0) hown hK g rfl 0 (by decide) rfl (hts _ (List.mem_cons_of_mem _ t_373)) (fun _ h9 => h9) 9 rfl dX0_closeParts_228 ?_
                                      refine lv_bipush (v := 7) hx hb dX0_closeParts_231 (by decide) ?_
                                      refine lv_aload_n hx hb dX0_closeParts_233 rfl (lv_at hl 5 rfl) ?_
                                      refine g_getk (C := RX0) (T := TX0) (N := 14) hx hb hts (mc_ inX0) hown hK g rfl 4 (by decide) rfl (hts _ (List.mem_cons_of_mem _ t_377)) (fun _ h9 => h9) 7 rfl dX0_closeParts_234 ?_
                                      refine lv_aload_n hx hb dX0_closeParts_237 rfl (lv_at hl 5 rfl) ?_
                                      refine g_getk (C := RX0) (T := TX0) (N := 14) hx hb hts (mc_ inX0) hown hK g rfl 8 (by decide) rfl (hts _ (List.mem_cons_of_mem _ t_381)) (fun _ h9 => h9) 4 rfl dX0_closeParts_238 ?_
                                      refine g_iald hx hb hK g ma_37 ka_37 (by decide) rfl (in_bd b_56 (by decide)) dX0_closeParts_241 (fun x_85 bx_85 cx_85 => ?_)
                                      refine g_callv (va_runV (As := [.int 7, .int x_85]) (rest := []) ⟨hx, hb, hml, hown, hts⟩ (r_X8_fail_2 l dC dI L kd tys fr_76 H.size g.2.2.2.1 q0_ mq0_ kq0_ 7 (bd_sub kb_7 (by decide)) x_85 x_40 h_41 (g.fcts [6] rfl)) (cwV 2 hts (gV_ t_1215 t_1107 t_1108 t_184 t_1109) rfl rfl rfl (by decide +kernel) ⟨(Nat.le_of_ble_eq_true rfl), (Nat.le_of_ble_eq_true rfl)⟩) (pre3V g hK mq0_ kq0_ (by decide) (q := (RX8, TX8, 10)) rfl) rfl rfl hl.1 rfl (lv_room (Nat.le_of_ble_eq_true rfl)) dX0_closeParts_242 ⟨(Nat.le_of_ble_eq_true rfl), (Nat.le_of_ble_eq_true rfl)⟩) g hK (by decide) (by decide) (fx' := [(0, 12, a0_, .int 0), (0, 10, a0_, .int x_77), (7, 6, q1_, .int x_72), (0, 11, a0_, .int y_67), (0, 8, a0_, .int y_55), (8, 8, q0_, .int x_40), (0, 4, a0_, .ref a_37), (0, 3, a0_, .ref g76_0_3_a0_), (0, 0, a0_, .ref q0_), (0, 2, a0_, .ref q1_)]) rfl (fun fr_86 H locs hp hMr_86 g => ?_)
                                      have hF_87 := hp
                                      have g := g.more hF_87
                                      obtain ⟨y_88, ey_88⟩ : ∃ z : Int32, z = v4_3 + 1 := ⟨_, rfl⟩
                                      refine lv_iinc (v := y_88) (lv' := [(3, .int y_88), (6, .int y_75), (2, .int 1), (5, .int 1), (4, .int x_57), (0, .ref a0_), (1, .int x1_)]) hx hb dX0_closeParts_245 hl (k := 4) rfl (by rw [ey_88]; rfl) (by decide) rfl (fun ls hl => ?_)
                                      have ty_88 := add_bd ey_88 b_48 kb_1 (by decide)
                                      have b_89 : bd 2 300 y_88 := add_rg ty_88 b_48 kb_1 (by decide)
                                      refine lv_goto (tgt := 4) hx hb dX0_closeParts_248 (by decide) ?_
                                      have hl9 := lv_sub hl [0, 1, 2, 3, 4, 5, 6] (by rfl : lv_pick [(3, .int y_88), (6, .int y_75), (2, .int 1), (5, .int 1), (4, .int x_57), (0, .ref a0_), (1, .int x1_)] [0, 1, 2, 3, 4, 5, 6] = [(3, .int y_88), (6, .int y_75), (2, .int 1), (5, .int 1), (4, .int x_57), (0, .ref a0_), (1, .int x1_)])
                                      have g9 := g.sub (fx' := [(8, 6, q0_, .int 1201), (8, 8, q0_, .int x_40), (0, 4, a0_, .ref a_37), (0, 12, a0_, .int 0), (0, 10, a0_, .int x_77), (7, 6, q1_, .int x_72), (0, 8, a0_, .int y_55), (0, 3, a0_, .ref g76_0_3_a0_), (0, 0, a0_, .ref q0_), (0, 2, a0_, .ref q1_)]) [0, 6, 7, 1, 2, 3, 5, 8, 9, 10] rfl
                                      exact ih4  y_88 y_75 1 1 x_57 x_77 x_72 y_55 (bd_sub b_89 (by decide)) (bd_sub kb_1 (by decide)) (bd_sub kb_1 (by decide)) h_78 h_73 (bd_sub b_56 (by decide)) (by have h9_0 := b_56; unfold bd at h9_0; have h9_1 := b_59; unfold bd at h9_1; have h9_2 := b_84; unfold bd at h9_2; have h9_3 := b_89; unfold bd at h9_3; have h9_4 := bdT v4_4; unfold bd at h9_4; have h9_5 := bdT v4_6; unfold bd at h9_5; have h9_6 := bv4_2; unfold bd at h9_6; have h9_7 := bv4_3; unfold bd at h9_7; have h9_8 := bv4_5; unfold bd at h9_8; have h9_9 := bw4_0_10_a0_; unfold bd at h9_9; have h9_10 := bw4_0_8_a0_; unfold bd at h9_10; have h9_11 := bw4_7_6_q1_; unfold bd at h9_11; have h9_12 := h_73; unfold bd at h9_12; have h9_13 := h_78; unfold bd at h9_13; have h9_14 := kb_0; unfold bd at h9_14; have h9_15 := kb_1; unfold bd at h9_15; have h9_16 := kb_12; unfold bd at h9_16; have h9_17 := kb_300; unfold bd at h9_17; have h9_18 := kb_6; unfold bd at h9_18; have h9_19 := kb_7; unfold bd at h9_19; omega) _ _ _ _ g9  hl9
                                · have fc_58 := neq_f c_58
                                  refine lv_iload hx hb dX0_closeParts_42 (lv_at hl 0 rfl) ?_
                                  refine lv_bipush (v := 7) hx hb dX0_closeParts_44 (by decide) ?_
                                  refine lv_icmp_ne (tgt := 53) hx hb dX0_closeParts_46 (by decide) (fun c_90 => ?_) (fun c_90 => ?_)
                                  · have fc_90 := neq_f c_90
                                    refine lv_iconst (v := 0) hx hb dX0_closeParts_53 (by decide) ?_
                                    refine lv_istore (lv' := [(5, .int 0), (4, .int x_57), (3, .int v4_3), (6, .int v4_6), (2, .int v4_2), (0, .ref a0_), (1, .int x1_)]) hx hb dX0_closeParts_54 hl (by decide) rfl (fun ls hl => ?_)
                                    refine lv_iload hx hb dX0_closeParts_56 (lv_at hl 0 rfl) ?_
                                    refine lv_if_ne (tgt := 70) hx hb dX0_closeParts_58 (by decide) (fun c_ => absurd c_ (by decide)) (fun c_ => ?_)
                                    refine lv_iload hx hb dX0_closeParts_61 (lv_at hl 1 rfl) ?_
                                    refine g_calli (va_runS (As := [.int x_57]) (rest := []) ⟨hx, hb, hml, hown, hts⟩ (r_X0_levelOf l dC dI L kd tys f H.size g.2.2.2.1 x_57) (va_cwS 1 hts (gS_ t_1191 t_1192 t_190 t_1193) rfl rfl rfl (by decide +kernel) ⟨(Nat.le_of_ble_eq_true rfl), (Nat.le_of_ble_eq_true rfl)⟩) (pre3S g hK) rfl rfl hl.1 rfl (lv_room (Nat.le_of_ble_eq_true rfl)) dX0_closeParts_63 ⟨(Nat.le_of_ble_eq_true rfl), (Nat.le_of_ble_eq_true rfl)⟩) g hK (by decide) (by decide) (fx' := [(8, 6, q0_, .int 1201), (8, 8, q0_, .int x_40), (0, 4, a0_, .ref a_37), (0, 12, a0_, .int 0), (0, 10, a0_, .int w4_0_10_a0_), (7, 6, q1_, .int w4_7_6_q1_), (0, 8, a0_, .int w4_0_8_a0_), (0, 3, a0_, .ref g76_0_3_a0_), (0, 0, a0_, .ref q0_), (0, 2, a0_, .ref q1_)]) rfl (fun r_91 fr_91 H locs hp hMr_91 g => ?_)
                                    rcases hp with ⟨h_92, -⟩ | ⟨h_93, h_94, -⟩
                                    · obtain rfl : r_91 = 0 := h_92
                                      refine lv_iload_n hx hb dX0_closeParts_66 rfl (lv_at hl 6 rfl) ?_
                                      refine lv_icmp_lt (tgt := 74) hx hb dX0_closeParts_67 (by decide) (fun c_95 => ?_) (fun c_95 => ?_)
                                      · have fc_95 := lt_f c_95
                                        have b_96 : bd 1 2147483647 x1_ := ltR fc_95 kb_0 (bdT x1_) (by decide)
                                        refine lv_iconst (v := 0) hx hb dX0_closeParts_74 (by decide) ?_
                                        refine lv_istore_n (lv' := [(2, .int 0), (5, .int 0), (4, .int x_57), (3, .int v4_3), (6, .int v4_6), (0, .ref a0_), (1, .int x1_)]) hx hb dX0_closeParts_75 rfl hl (by decide) rfl (fun ls hl => ?_)
                                        refine lv_iload_n hx hb dX0_closeParts_76 rfl (lv_at hl 0 rfl) ?_
                                        refine lv_if_eq (tgt := 245) hx hb dX0_closeParts_77 (by decide) (fun c_ => ?_) (fun c_ => absurd (by decide) c_)
                                        obtain ⟨y_97, ey_97⟩ : ∃ z : Int32, z = v4_3 + 1 := ⟨_, rfl⟩
                                        refine lv_iinc (v := y_97) (lv' := [(3, .int y_97), (2, .int 0), (5, .int 0), (4, .int x_57), (6, .int v4_6), (0, .ref a0_), (1, .int x1_)]) hx hb dX0_closeParts_245 hl (k := 3) rfl (by rw [ey_97]; rfl) (by decide) rfl (fun ls hl => ?_)
                                        have ty_97 := add_bd ey_97 b_48 kb_1 (by decide)
                                        have b_98 : bd 2 300 y_97 := add_rg ty_97 b_48 kb_1 (by decide)
                                        refine lv_goto (tgt := 4) hx hb dX0_closeParts_248 (by decide) ?_
                                        have hl9 := lv_sub hl [0, 4, 1, 2, 3, 5, 6] (by rfl : lv_pick [(3, .int y_97), (2, .int 0), (5, .int 0), (4, .int x_57), (6, .int v4_6), (0, .ref a0_), (1, .int x1_)] [0, 4, 1, 2, 3, 5, 6] = [(3, .int y_97), (6, .int v4_6), (2, .int 0), (5, .int 0), (4, .int x_57), (0, .ref a0_), (1, .int x1_)])
                                        have g9 := g.sub (fx' := [(8, 6, q0_, .int 1201), (8, 8, q0_, .int x_40), (0, 4, a0_, .ref a_37), (0, 12, a0_, .int 0), (0, 10, a0_, .int w4_0_10_a0_), (7, 6, q1_, .int w4_7_6_q1_), (0, 8, a0_, .int w4_0_8_a0_), (0, 3, a0_, .ref g76_0_3_a0_), (0, 0, a0_, .ref q0_), (0, 2, a0_, .ref q1_)]) [0, 1, 2, 3, 4, 5, 6, 7, 8, 9] rfl
                                        exact ih4  y_97 v4_6 0 0 x_57 w4_0_10_a0_ w4_7_6_q1_ w4_0_8_a0_ (bd_sub b_98 (by decide)) (bd_sub kb_0 (by decide)) (bd_sub kb_0 (by decide)) bw4_0_10_a0_ bw4_7_6_q1_ (bd_sub b_54 (by decide)) (by have h9_0 := b_54; unfold bd at h9_0; have h9_1 := b_98; unfold bd at h9_1; have h9_2 := bdT v4_4; unfold bd at h9_2; have h9_3 := bdT v4_6; unfold bd at h9_3; have h9_4 := bdT x_57; unfold bd at h9_4; have h9_5 := bv4_2; unfold bd at h9_5; have h9_6 := bv4_3; unfold bd at h9_6; have h9_7 := bv4_5; unfold bd at h9_7; have h9_8 := bw4_0_10_a0_; unfold bd at h9_8; have h9_9 := bw4_0_8_a0_; unfold bd at h9_9; have h9_10 := bw4_7_6_q1_; unfold bd at h9_10; have h9_11 := kb_0; unfold bd at h9_11; have h9_12 := kb_1; unfold bd at h9_12; have h9_13 := kb_12; unfold bd at h9_13; have h9_14 := kb_300; unfold bd at h9_14; have h9_15 := kb_6; unfold bd at h9_15; have h9_16 := kb_7; unfold bd at h9_16; omega) _ _ _ _ g9  hl9
                                      · have fc_95 := nlt_f c_95
                                        have b_99 : bd (-2147483648) 0 x1_ := leL fc_95 (bdT x1_) kb_0 (by decide)
                                        refine lv_iconst (v := 1) hx hb dX0_closeParts_70 (by decide) ?_
                                        refine lv_goto (tgt := 75) hx hb dX0_closeParts_71 (by decide) ?_
                                        refine lv_istore_n (lv' := [(2, .int 1), (5, .int 0), (4, .int x_57), (3, .int v4_3), (6, .int v4_6), (0, .ref a0_), (1, .int x1_)]) hx hb dX0_closeParts_75 rfl hl (by decide) rfl (fun ls hl => ?_)
                                        refine lv_iload_n hx hb dX0_closeParts_76 rfl (lv_at hl 0 rfl) ?_
                                        refine lv_if_eq (tgt := 245) hx hb dX0_closeParts_77 (by decide) (fun c_ => absurd c_ (by decide)) (fun c_ => ?_)
                                        refine lv_aload_n hx hb dX0_closeParts_80 rfl (lv_at hl 5 rfl) ?_
                                        refine lv_dup hx hb dX0_closeParts_81 rfl ?_
                                        refine g_getk (C := RX0) (T := TX0) (N := 14) hx hb hts (mc_ inX0) hown hK g rfl 8 (by decide) rfl (hts _ (List.mem_cons_of_mem _ t_381)) (fun _ h9 => h9) 6 rfl dX0_closeParts_82 ?_
                                        refine lv_iconst (v := 1) hx hb dX0_closeParts_85 (by decide) ?_
                                        refine lv_isub hx hb dX0_closeParts_86 ?_
                                        refine lv_topi (fun y_100 ey_100 => ?_)
                                        obtain rfl : y_55 = y_100 := ey_55.trans ey_100.symm
                                        refine g_put (C := RX0) (T := TX0) (N := 14) hx hb hts (mc_ inX0) tyX0 tyX0_ok nmX0 hown hK g ma0_ ka0_ (by decide) rfl 8 (by decide) (hts _ (List.mem_cons_of_mem _ t_381)) (fun _ h9 => h9) rfl rfl (okV_i (bd_sub b_56 (by decide))) rfl rfl (by decide) (Or.inr (Or.inl (by decide))) (fx' := [(8, 6, q0_, .int 1201), (8, 8, q0_, .int x_40), (0, 4, a0_, .ref a_37), (0, 12, a0_, .int 0), (0, 10, a0_, .int w4_0_10_a0_), (7, 6, q1_, .int w4_7_6_q1_), (0, 3, a0_, .ref g76_0_3_a0_), (0, 0, a0_, .ref q0_), (0, 2, a0_, .ref q1_)]) rfl dX0_closeParts_87 (fun f H locs hM_101 g => ?_)
                                        refine lv_aload_n hx hb dX0_closeParts_90 rfl (lv_at hl 5 rfl) ?_
                                        refine g_calli (va_runV (As := []) (rest := []) ⟨hx, hb, hml, hown, hts⟩ (r_X0_takeHeight l dC dI L kd tys f H.size g.2.2.2.1 a0_ ma0_ ka0_) (cwV 0 hts (gV_ t_1199 t_1201 t_16 t_190 t_1202) rfl rfl rfl (by decide +kernel) ⟨(Nat.le_of_ble_eq_true rfl), (Nat.le_of_ble_eq_true rfl)⟩) (pre3V g hK ma0_ ka0_ (by decide) (q := (RX0, TX0, 14)) rfl) rfl rfl hl.1 rfl (lv_room (Nat.le_of_ble_eq_true rfl)) dX0_closeParts_91 ⟨(Nat.le_of_ble_eq_true rfl), (Nat.le_of_ble_eq_true rfl)⟩) g hK (by decide) (by decide) (fx' := [(0, 8, a0_, .int y_55), (8, 6, q0_, .int 1201), (8, 8, q0_, .int x_40), (0, 4, a0_, .ref a_37), (0, 12, a0_, .int 0), (7, 6, q1_, .int w4_7_6_q1_), (0, 3, a0_, .ref g76_0_3_a0_), (0, 0, a0_, .ref q0_), (0, 2, a0_, .ref q1_)]) rfl (fun r_102 fr_102 H locs hp hMr_102 g => ?_)
                                        obtain ⟨x_103, h_104, hF_105⟩ := hp
                                        have g := g.more hF_105
                                        refine lv_istore (lv' := [(6, .int r_102), (2, .int 1), (5, .int 0), (4, .int x_57), (3, .int v4_3), (0, .ref a0_), (1, .int x1_)]) hx hb dX0_closeParts_94 hl (by decide) rfl (fun ls hl => ?_)
                                        refine lv_iload hx hb dX0_closeParts_96 (lv_at hl 2 rfl) ?_
                                        refine lv_if_eq (tgt := 136) hx hb dX0_closeParts_98 (by decide) (fun c_ => ?_) (fun c_ => absurd (by decide) c_)
                                        refine lv_iload hx hb dX0_closeParts_136 (lv_at hl 3 rfl) ?_
                                        refine lv_sipush (v := 205) hx hb dX0_closeParts_138 (by decide) ?_
                                        have kb_205 : bd 205 205 (205 : Int32) := ⟨by decide, by decide⟩
                                        refine lv_icmp_eq (tgt := 152) hx hb dX0_closeParts_141 (by decide) (fun c_106 => ?_) (fun c_106 => ?_)
                                        · have fc_106 := eq_f c_106
                                          have b_107 : bd 205 205 x_57 := eqX fc_106 (bdT x_57) kb_205 (by decide)
                                          refine lv_aload_n hx hb dX0_closeParts_152 rfl (lv_at hl 5 rfl) ?_
                                          refine g_getk (C := RX0) (T := TX0) (N := 14) hx hb hts (mc_ inX0) hown hK g rfl 2 (by decide) rfl (hts _ (List.mem_cons_of_mem _ t_375)) (fun _ h9 => h9) 9 rfl dX0_closeParts_153 ?_
                                          refine lv_bipush (v := 8) hx hb dX0_closeParts_156 (by decide) ?_
                                          refine lv_iconst (v := 0) hx hb dX0_closeParts_158 (by decide) ?_
                                          refine g_callv (va_runV (As := [.int 8, .int 0]) (rest := []) ⟨hx, hb, hml, hown, hts⟩ (r_X7_emit l dC dI L kd tys fr_102 H.size g.2.2.2.1 q1_ mq1_ kq1_ 8 0) (cwV 2 hts (gV_ t_1203 t_1204 t_1205 t_191 t_1206) rfl rfl rfl (by decide +kernel) ⟨(Nat.le_of_ble_eq_true rfl), (Nat.le_of_ble_eq_true rfl)⟩) (pre3V g hK mq1_ kq1_ (by decide) (q := (RX7, TX7, 19)) rfl) rfl rfl hl.1 rfl (lv_room (Nat.le_of_ble_eq_true rfl)) dX0_closeParts_159 ⟨(Nat.le_of_ble_eq_true rfl), (Nat.le_of_ble_eq_true rfl)⟩) g hK (by decide) (by decide) (fx' := [(0, 10, a0_, .int x_103), (0, 8, a0_, .int y_55), (8, 6, q0_, .int 1201), (8, 8, q0_, .int x_40), (0, 4, a0_, .ref a_37), (0, 12, a0_, .int 0), (0, 3, a0_, .ref g76_0_3_a0_), (0, 0, a0_, .ref q0_), (0, 2, a0_, .ref q1_)]) rfl (fun fr_108 H locs hp hMr_108 g => ?_)
                                          obtain ⟨x_109, h_110, hF_111⟩ := hp
                                          have g := g.more hF_111
                                          refine lv_aload_n hx hb dX0_closeParts_162 rfl (lv_at hl 5 rfl) ?_
                                          refine g_getk (C := RX0) (T := TX0) (N := 14) hx hb hts (mc_ inX0) hown hK g rfl 2 (by decide) rfl (hts _ (List.mem_cons_of_mem _ t_375)) (fun _ h9 => h9) 9 rfl dX0_closeParts_163 ?_
                                          refine lv_aload_n hx hb dX0_closeParts_166 rfl (lv_at hl 5 rfl) ?_
                                          refine g_getr (K := 112) (C := RX0) (T := TX0) (N := 14) hx hb hts (mc_ inX0) hown hK g ma0_ ka0_ (by decide) rfl 5 (by decide) rfl (hts _ (List.mem_cons_of_mem _ t_378)) (fun _ h9 => h9) rfl dX0_closeParts_167 (fun a_112 ma_112 ka_112 g => ?_)
                                          refine lv_aload_n hx hb dX0_closeParts_170 rfl (lv_at hl 5 rfl) ?_
                                          refine g_getk (C := RX0) (T := TX0) (N := 14) hx hb hts (mc_ inX0) hown hK g rfl 8 (by decide) rfl (hts _ (List.mem_cons_of_mem _ t_381)) (fun _ h9 => h9) 3 rfl dX0_closeParts_171 ?_
                                          refine g_iald hx hb hK g ma_112 ka_112 (by decide) rfl (in_bd b_56 (by decide)) dX0_closeParts_174 (fun x_113 bx_113 cx_113 => ?_)
                                          refine g_callv (va_runV (As := [.int x_113]) (rest := []) ⟨hx, hb, hml, hown, hts⟩ (r_X7_leadHere l dC dI L kd tys fr_108 H.size g.2.2.2.1 q1_ mq1_ kq1_ x_113) (cwV 1 hts (gV_ t_1207 t_1208 t_1209 t_191 t_1210) rfl rfl rfl (by decide +kernel) ⟨(Nat.le_of_ble_eq_true rfl), (Nat.le_of_ble_eq_true rfl)⟩) (pre3V g hK mq1_ kq1_ (by decide) (q := (RX7, TX7, 19)) rfl) rfl rfl hl.1 rfl (lv_room (Nat.le_of_ble_eq_true rfl)) dX0_closeParts_175 ⟨(Nat.le_of_ble_eq_true rfl), (Nat.le_of_ble_eq_true rfl)⟩) g hK (by decide) (by decide) (fx' := [(0, 5, a0_, .ref a_112), (7, 6, q1_, .int x_109), (0, 10, a0_, .int x_103), (0, 8, a0_, .int y_55), (8, 6, q0_, .int 1201), (8, 8, q0_, .int x_40), (0, 4, a0_, .ref a_37), (0, 12, a0_, .int 0), (0, 3, a0_, .ref g76_0_3_a0_), (0, 0, a0_, .ref q0_), (0, 2, a0_, .ref q1_)]) rfl (fun fr_114 H locs hp hMr_114 g => ?_)
                                          refine lv_goto (tgt := 191) hx hb dX0_closeParts_178 (by decide) ?_
                                          refine lv_iconst (v := 1) hx hb dX0_closeParts_191 (by decide) ?_
                                          refine lv_iload hx hb dX0_closeParts_192 (lv_at hl 2 rfl) ?_
                                          refine lv_if_eq (tgt := 202) hx hb dX0_closeParts_194 (by decide) (fun c_ => ?_) (fun c_ => absurd (by decide) c_)
                                          refine lv_iload hx hb dX0_closeParts_202 (lv_at hl 0 rfl) ?_
                                          refine lv_aload_n hx hb dX0_closeParts_204 rfl (lv_at hl 5 rfl) ?_
                                          refine g_calli (va_runV (As := []) (rest := [.int r_102, .int 1]) ⟨hx, hb, hml, hown, hts⟩ (r_X0_takeHeight l dC dI L kd tys fr_114 H.size g.2.2.2.1 a0_ ma0_ ka0_) (cwV 0 hts (gV_ t_1199 t_1201 t_16 t_190 t_1202) rfl rfl rfl (by decide +kernel) ⟨(Nat.le_of_ble_eq_true rfl), (Nat.le_of_ble_eq_true rfl)⟩) (pre3V g hK ma0_ ka0_ (by decide) (q := (RX0, TX0, 14)) rfl) rfl rfl hl.1 rfl (lv_room (Nat.le_of_ble_eq_true rfl)) dX0_closeParts_205 ⟨(Nat.le_of_ble_eq_true rfl), (Nat.le_of_ble_eq_true rfl)⟩) g hK (by decide) (by decide) (fx' := [(0, 5, a0_, .ref a_112), (7, 6, q1_, .int x_109), (0, 8, a0_, .int y_55), (8, 6, q0_, .int 1201), (8, 8, q0_, .int x_40), (0, 4, a0_, .ref a_37), (0, 12, a0_, .int 0), (0, 3, a0_, .ref g76_0_3_a0_), (0, 0, a0_, .ref q0_), (0, 2, a0_, .ref q1_)]) rfl (fun r_115 fr_115 H locs hp hMr_115 g => ?_)
                                          obtain ⟨x_116, h_117, hF_118⟩ := hp
                                          have g := g.more hF_118
                                          refine va_mmax hx hb (hml.trans hl.1.symm) hown (hts _ (List.mem_cons_of_mem _ t_1194)) (hts _ (List.mem_cons_of_mem _ t_1041)) (hts _ (List.mem_cons_of_mem _ t_204)) (hts _ (List.mem_cons_of_mem _ t_1042)) (Nat.le_of_ble_eq_true rfl) (Nat.le_of_ble_eq_true rfl) (Nat.le_of_ble_eq_true rfl) (Nat.le_of_ble_eq_true rfl) dX0_closeParts_208 ?_
                                          refine lv_topi (fun y_119 ey_119 => ?_)
                                          have ty_119 : y_119.toInt = max r_102.toInt r_115.toInt := by rw [ey_119]; exact mmax_ok _ _
                                          have b_120 : bd (-2147483648) 2147483647 y_119 := max_rg ty_119 (bdT r_102) (bdT r_115) (by decide)
                                          refine lv_iadd hx hb dX0_closeParts_211 ?_
                                          refine lv_topi (fun y_121 ey_121 => ?_)
                                          refine lv_istore (lv' := [(6, .int y_121), (2, .int 1), (5, .int 0), (4, .int x_57), (3, .int v4_3), (0, .ref a0_), (1, .int x1_)]) hx hb dX0_closeParts_212 hl (by decide) rfl (fun ls hl => ?_)
                                          refine lv_aload_n hx hb dX0_closeParts_214 rfl (lv_at hl 5 rfl) ?_
                                          refine lv_iload hx hb dX0_closeParts_215 (lv_at hl 0 rfl) ?_
                                          refine g_callv (va_runV (As := [.int y_121]) (rest := []) ⟨hx, hb, hml, hown, hts⟩ (r_X0_addWhole l dC dI L kd tys fr_115 H.size g.2.2.2.1 a0_ ma0_ ka0_ y_121) (cwV 1 hts (gV_ t_1211 t_1213 t_17 t_190 t_1214) rfl rfl rfl (by decide +kernel) ⟨(Nat.le_of_ble_eq_true rfl), (Nat.le_of_ble_eq_true rfl)⟩) (pre3V g hK ma0_ ka0_ (by decide) (q := (RX0, TX0, 14)) rfl) rfl rfl hl.1 rfl (lv_room (Nat.le_of_ble_eq_true rfl)) dX0_closeParts_217 ⟨(Nat.le_of_ble_eq_true rfl), (Nat.le_of_ble_eq_true rfl)⟩) g hK (by decide) (by decide) (fx' := [(0, 5, a0_, .ref a_112), (7, 6, q1_, .int x_109), (0, 8, a0_, .int y_55), (8, 6, q0_, .int 1201), (8, 8, q0_, .int x_40), (0, 4, a0_, .ref a_37), (0, 3, a0_, .ref g76_0_3_a0_), (0, 0, a0_, .ref q0_), (0, 2, a0_, .ref q1_)]) rfl (fun fr_122 H locs hp hMr_122 g => ?_)
                                          obtain ⟨x_123, h_124, hF_125⟩ := hp
                                          have g := g.more hF_125
                                          refine lv_iload hx hb dX0_closeParts_220 (lv_at hl 0 rfl) ?_
                                          refine lv_bipush (v := 12) hx hb dX0_closeParts_222 (by decide) ?_
                                          refine lv_icmp_le (tgt := 245) hx hb dX0_closeParts_224 (by decide) (fun c_126 => ?_) (fun c_126 => ?_)
                                          · have fc_126 := le_f c_126
                                            have b_127 : bd (-2147483648) 12 y_121 := leL fc_126 (bdT y_121) kb_12 (by decide)
                                            obtain ⟨y_128, ey_128⟩ : ∃ z : Int32, z = v4_3 + 1 := ⟨_, rfl⟩
                                            refine lv_iinc (v := y_128) (lv' := [(3, .int y_128), (6, .int y_121), (2, .int 1), (5, .int 0), (4, .int x_57), (0, .ref a0_), (1, .int x1_)]) hx hb dX0_closeParts_245 hl (k := 4) rfl (by rw [ey_128]; rfl) (by decide) rfl (fun ls hl => ?_)
                                            have ty_128 := add_bd ey_128 b_48 kb_1 (by decide)
                                            have b_129 : bd 2 300 y_128 := add_rg ty_128 b_48 kb_1 (by decide)
                                            refine lv_goto (tgt := 4) hx hb dX0_closeParts_248 (by decide) ?_
                                            have hl9 := lv_sub hl [0, 1, 2, 3, 4, 5, 6] (by rfl : lv_pick [(3, .int y_128), (6, .int y_121), (2, .int 1), (5, .int 0), (4, .int x_57), (0, .ref a0_), (1, .int x1_)] [0, 1, 2, 3, 4, 5, 6] = [(3, .int y_128), (6, .int y_121), (2, .int 1), (5, .int 0), (4, .int x_57), (0, .ref a0_), (1, .int x1_)])
                                            have g9 := g.sub (fx' := [(8, 6, q0_, .int 1201), (8, 8, q0_, .int x_40), (0, 4, a0_, .ref a_37), (0, 12, a0_, .int 0), (0, 10, a0_, .int x_123), (7, 6, q1_, .int x_109), (0, 8, a0_, .int y_55), (0, 3, a0_, .ref g76_0_3_a0_), (0, 0, a0_, .ref q0_), (0, 2, a0_, .ref q1_)]) [5, 6, 7, 0, 1, 3, 4, 8, 9, 10] rfl
                                            exact ih4  y_128 y_121 1 0 x_57 x_123 x_109 y_55 (bd_sub b_129 (by decide)) (bd_sub kb_1 (by decide)) (bd_sub kb_0 (by decide)) h_124 h_110 (bd_sub b_56 (by decide)) (by have h9_0 := b_107; unfold bd at h9_0; have h9_1 := b_127; unfold bd at h9_1; have h9_2 := b_129; unfold bd at h9_2; have h9_3 := b_56; unfold bd at h9_3; have h9_4 := bdT v4_4; unfold bd at h9_4; have h9_5 := bdT v4_6; unfold bd at h9_5; have h9_6 := bv4_2; unfold bd at h9_6; have h9_7 := bv4_3; unfold bd at h9_7; have h9_8 := bv4_5; unfold bd at h9_8; have h9_9 := bw4_0_10_a0_; unfold bd at h9_9; have h9_10 := bw4_0_8_a0_; unfold bd at h9_10; have h9_11 := bw4_7_6_q1_; unfold bd at h9_11; have h9_12 := h_110; unfold bd at h9_12; have h9_13 := h_124; unfold bd at h9_13; have h9_14 := kb_0; unfold bd at h9_14; have h9_15 := kb_1; unfold bd at h9_15; have h9_16 := kb_12; unfold bd at h9_16; have h9_17 := kb_205; unfold bd at h9_17; have h9_18 := kb_300; unfold bd at h9_18; have h9_19 := kb_6; unfold bd at h9_19; have h9_20 := kb_7; unfold bd at h9_20; omega) _ _ _ _ g9  hl9
                                          · have fc_126 := nle_f c_126
                                            have b_130 : bd 13 2147483647 y_121 := ltR fc_126 kb_12 (bdT y_121) (by decide)
                                            refine lv_aload_n hx hb dX0_closeParts_227 rfl (lv_at hl 5 rfl) ?_
                                            refine g_getk (C := RX0) (T := TX0) (N := 14) hx hb hts (mc_ inX0) hown hK g rfl 0 (by decide) rfl (hts _ (List.mem_cons_of_mem _ t_373)) (fun _ h9 => h9) 9 rfl dX0_closeParts_228 ?_
                                            refine lv_bipush (v := 7) hx hb dX0_closeParts_231 (by decide) ?_
                                            refine lv_aload_n hx hb dX0_closeParts_233 rfl (lv_at hl 5 rfl) ?_
                                            refine g_getk (C := RX0) (T := TX0) (N := 14) hx hb hts (mc_ inX0) hown hK g rfl 4 (by decide) rfl (hts _ (List.mem_cons_of_mem _ t_377)) (fun _ h9 => h9) 7 rfl dX0_closeParts_234 ?_
                                            refine lv_aload_n hx hb dX0_closeParts_237 rfl (lv_at hl 5 rfl) ?_
                                            refine g_getk (C := RX0) (T := TX0) (N := 14) hx hb hts (mc_ inX0) hown hK g rfl 8 (by decide) rfl (hts _ (List.mem_cons_of_mem _ t_381)) (fun _ h9 => h9) 4 rfl dX0_closeParts_238 ?_
                                            refine g_iald hx hb hK g ma_37 ka_37 (by decide) rfl (in_bd b_56 (by decide)) dX0_closeParts_241 (fun x_131 bx_131 cx_131 => ?_)
                                            refine g_callv (va_runV (As := [.int 7, .int x_131]) (rest := []) ⟨hx, hb, hml, hown, hts⟩ (r_X8_fail_2 l dC dI L kd tys fr_122 H.size g.2.2.2.1 q0_ mq0_ kq0_ 7 (bd_sub kb_7 (by decide)) x_131 x_40 h_41 (g.fcts [6] rfl)) (cwV 2 hts (gV_ t_1215 t_1107 t_1108 t_184 t_1109) rfl rfl rfl (by decide +kernel) ⟨(Nat.le_of_ble_eq_true rfl), (Nat.le_of_ble_eq_true rfl)⟩) (pre3V g hK mq0_ kq0_ (by decide) (q := (RX8, TX8, 10)) rfl) rfl rfl hl.1 rfl (lv_room (Nat.le_of_ble_eq_true rfl)) dX0_closeParts_242 ⟨(Nat.le_of_ble_eq_true rfl), (Nat.le_of_ble_eq_true rfl)⟩) g hK (by decide) (by decide) (fx' := [(0, 12, a0_, .int 0), (0, 10, a0_, .int x_123), (0, 5, a0_, .ref a_112), (7, 6, q1_, .int x_109), (0, 8, a0_, .int y_55), (8, 8, q0_, .int x_40), (0, 4, a0_, .ref a_37), (0, 3, a0_, .ref g76_0_3_a0_), (0, 0, a0_, .ref q0_), (0, 2, a0_, .ref q1_)]) rfl (fun fr_132 H locs hp hMr_132 g => ?_)
                                            have hF_133 := hp
                                            have g := g.more hF_133
                                            obtain ⟨y_134, ey_134⟩ : ∃ z : Int32, z = v4_3 + 1 := ⟨_, rfl⟩
                                            refine lv_iinc (v := y_134) (lv' := [(3, .int y_134), (6, .int y_121), (2, .int 1), (5, .int 0), (4, .int x_57), (0, .ref a0_), (1, .int x1_)]) hx hb dX0_closeParts_245 hl (k := 4) rfl (by rw [ey_134]; rfl) (by decide) rfl (fun ls hl => ?_)
                                            have ty_134 := add_bd ey_134 b_48 kb_1 (by decide)
                                            have b_135 : bd 2 300 y_134 := add_rg ty_134 b_48 kb_1 (by decide)
                                            refine lv_goto (tgt := 4) hx hb dX0_closeParts_248 (by decide) ?_
                                            have hl9 := lv_sub hl [0, 1, 2, 3, 4, 5, 6] (by rfl : lv_pick [(3, .int y_134), (6, .int y_121), (2, .int 1), (5, .int 0), (4, .int x_57), (0, .ref a0_), (1, .int x1_)] [0, 1, 2, 3, 4, 5, 6] = [(3, .int y_134), (6, .int y_121), (2, .int 1), (5, .int 0), (4, .int x_57), (0, .ref a0_), (1, .int x1_)])
                                            have g9 := g.sub (fx' := [(8, 6, q0_, .int 1201), (8, 8, q0_, .int x_40), (0, 4, a0_, .ref a_37), (0, 12, a0_, .int 0), (0, 10, a0_, .int x_123), (7, 6, q1_, .int x_109), (0, 8, a0_, .int y_55), (0, 3, a0_, .ref g76_0_3_a0_), (0, 0, a0_, .ref q0_), (0, 2, a0_, .ref q1_)]) [0, 6, 7, 1, 2, 4, 5, 8, 9, 10] rfl
                                            exact ih4  y_134 y_121 1 0 x_57 x_123 x_109 y_55 (bd_sub b_135 (by decide)) (bd_sub kb_1 (by decide)) (bd_sub kb_0 (by decide)) h_124 h_110 (bd_sub b_56 (by decide)) (by have h9_0 := b_107; unfold bd at h9_0; have h9_1 := b_130; unfold bd at h9_1; have h9_2 := b_135; unfold bd at h9_2; have h9_3 := b_56; unfold bd at h9_3; have h9_4 := bdT v4_4; unfold bd at h9_4; have h9_5 := bdT v4_6; unfold bd at h9_5; have h9_6 := bv4_2; unfold bd at h9_6; have h9_7 := bv4_3; unfold bd at h9_7; have h9_8 := bv4_5; unfold bd at h9_8; have h9_9 := bw4_0_10_a0_; unfold bd at h9_9; have h9_10 := bw4_0_8_a0_; unfold bd at h9_10; have h9_11 := bw4_7_6_q1_; unfold bd at h9_11; have h9_12 := h_110; unfold bd at h9_12; have h9_13 := h_124; unfold bd at h9_13; have h9_14 := kb_0; unfold bd at h9_14; have h9_15 := kb_1; unfold bd at h9_15; have h9_16 := kb_12; unfold bd at h9_16; have h9_17 := kb_205; unfold bd at h9_17; have h9_18 := kb_300; unfold bd at h9_18; have h9_19 := kb_6; unfold bd at h9_19; have h9_20 := kb_7; unfold bd at h9_20; omega) _ _ _ _ g9  hl9
                                        · have fc_106 := neq_f c_106
                                          refine lv_iload hx hb dX0_closeParts_144 (lv_at hl 3 rfl) ?_
                                          refine lv_sipush (v := 206) hx hb dX0_closeParts_146 (by decide) ?_
                                          have kb_206 : bd 206 206 (206 : Int32) := ⟨by decide, by decide⟩
                                          refine lv_icmp_ne (tgt := 181) hx hb dX0_closeParts_149 (by decide) (fun c_136 => ?_) (fun c_136 => ?_)
                                          · have fc_136 := neq_f c_136
                                            refine lv_aload_n hx hb dX0_closeParts_181 rfl (lv_at hl 5 rfl) ?_
                                            refine g_getk (C := RX0) (T := TX0) (N := 14) hx hb hts (mc_ inX0) hown hK g rfl 2 (by decide) rfl (hts _ (List.mem_cons_of_mem _ t_375)) (fun _ h9 => h9) 9 rfl dX0_closeParts_182 ?_
                                            refine lv_iload hx hb dX0_closeParts_185 (lv_at hl 3 rfl) ?_
                                            refine lv_iconst (v := 0) hx hb dX0_closeParts_187 (by decide) ?_
                                            refine g_callv (va_runV (As := [.int x_57, .int 0]) (rest := []) ⟨hx, hb, hml, hown, hts⟩ (r_X7_emit l dC dI L kd tys fr_102 H.size g.2.2.2.1 q1_ mq1_ kq1_ x_57 0) (cwV 2 hts (gV_ t_1203 t_1204 t_1205 t_191 t_1206) rfl rfl rfl (by decide +kernel) ⟨(Nat.le_of_ble_eq_true rfl), (Nat.le_of_ble_eq_true rfl)⟩) (pre3V g hK mq1_ kq1_ (by decide) (q := (RX7, TX7, 19)) rfl) rfl rfl hl.1 rfl (lv_room (Nat.le_of_ble_eq_true rfl)) dX0_closeParts_188 ⟨(Nat.le_of_ble_eq_true rfl), (Nat.le_of_ble_eq_true rfl)⟩) g hK (by decide) (by decide) (fx' := [(0, 10, a0_, .int x_103), (0, 8, a0_, .int y_55), (8, 6, q0_, .int 1201), (8, 8, q0_, .int x_40), (0, 4, a0_, .ref a_37), (0, 12, a0_, .int 0), (0, 3, a0_, .ref g76_0_3_a0_), (0, 0, a0_, .ref q0_), (0, 2, a0_, .ref q1_)]) rfl (fun fr_137 H locs hp hMr_137 g => ?_)
                                            obtain ⟨x_138, h_139, hF_140⟩ := hp
                                            have g := g.more hF_140
                                            refine lv_iconst (v := 1) hx hb dX0_closeParts_191 (by decide) ?_
                                            refine lv_iload hx hb dX0_closeParts_192 (lv_at hl 2 rfl) ?_
                                            refine lv_if_eq (tgt := 202) hx hb dX0_closeParts_194 (by decide) (fun c_ => ?_) (fun c_ => absurd (by decide) c_)
                                            refine lv_iload hx hb dX0_closeParts_202 (lv_at hl 0 rfl) ?_
                                            refine lv_aload_n hx hb dX0_closeParts_204 rfl (lv_at hl 5 rfl) ?_
                                            refine g_calli (va_runV (As := []) (rest := [.int r_102, .int 1]) ⟨hx, hb, hml, hown, hts⟩ (r_X0_takeHeight l dC dI L kd tys fr_137 H.size g.2.2.2.1 a0_ ma0_ ka0_) (cwV 0 hts (gV_ t_1199 t_1201 t_16 t_190 t_1202) rfl rfl rfl (by decide +kernel) ⟨(Nat.le_of_ble_eq_true rfl), (Nat.le_of_ble_eq_true rfl)⟩) (pre3V g hK ma0_ ka0_ (by decide) (q := (RX0, TX0, 14)) rfl) rfl rfl hl.1 rfl (lv_room (Nat.le_of_ble_eq_true rfl)) dX0_closeParts_205 ⟨(Nat.le_of_ble_eq_true rfl), (Nat.le_of_ble_eq_true rfl)⟩) g hK (by decide) (by decide) (fx' := [(7, 6, q1_, .int x_138), (0, 8, a0_, .int y_55), (8, 6, q0_, .int 1201), (8, 8, q0_, .int x_40), (0, 4, a0_, .ref a_37), (0, 12, a0_, .int 0), (0, 3, a0_, .ref g76_0_3_a0_), (0, 0, a0_, .ref q0_), (0, 2, a0_, .ref q1_)]) rfl (fun r_141 fr_141 H locs hp hMr_141 g => ?_)
                                            obtain ⟨x_142, h_143, hF_144⟩ := hp
                                            have g := g.more hF_144
                                            refine va_mmax hx hb (hml.trans hl.1.symm) hown (hts _ (List.mem_cons_of_mem _ t_1194)) (hts _ (List.mem_cons_of_mem _ t_1041)) (hts _ (List.mem_cons_of_mem _ t_204)) (hts _ (List.mem_cons_of_mem _ t_1042)) (Nat.le_of_ble_eq_true rfl) (Nat.le_of_ble_eq_true rfl) (Nat.le_of_ble_eq_true rfl) (Nat.le_of_ble_eq_true rfl) dX0_closeParts_208 ?_
                                            refine lv_topi (fun y_145 ey_145 => ?_)
                                            have ty_145 : y_145.toInt = max r_102.toInt r_141.toInt := by rw [ey_145]; exact mmax_ok _ _
                                            have b_146 : bd (-2147483648) 2147483647 y_145 := max_rg ty_145 (bdT r_102) (bdT r_141) (by decide)
                                            refine lv_iadd hx hb dX0_closeParts_211 ?_
                                            refine lv_topi (fun y_147 ey_147 => ?_)
                                            refine lv_istore (lv' := [(6, .int y_147), (2, .int 1), (5, .int 0), (4, .int x_57), (3, .int v4_3), (0, .ref a0_), (1, .int x1_)]) hx hb dX0_closeParts_212 hl (by decide) rfl (fun ls hl => ?_)
                                            refine lv_aload_n hx hb dX0_closeParts_214 rfl (lv_at hl 5 rfl) ?_
                                            refine lv_iload hx hb dX0_closeParts_215 (lv_at hl 0 rfl) ?_
                                            refine g_callv (va_runV (As := [.int y_147]) (rest := []) ⟨hx, hb, hml, hown, hts⟩ (r_X0_addWhole l dC dI L kd tys fr_141 H.size g.2.2.2.1 a0_ ma0_ ka0_ y_147) (cwV 1 hts (gV_ t_1211 t_1213 t_17 t_190 t_1214) rfl rfl rfl (by decide +kernel) ⟨(Nat.le_of_ble_eq_true rfl), (Nat.le_of_ble_eq_true rfl)⟩) (pre3V g hK ma0_ ka0_ (by decide) (q := (RX0, TX0, 14)) rfl) rfl rfl hl.1 rfl (lv_room (Nat.le_of_ble_eq_true rfl)) dX0_closeParts_217 ⟨(Nat.le_of_ble_eq_true rfl), (Nat.le_of_ble_eq_true rfl)⟩) g hK (by decide) (by decide) (fx' := [(7, 6, q1_, .int x_138), (0, 8, a0_, .int y_55), (8, 6, q0_, .int 1201), (8, 8, q0_, .int x_40), (0, 4, a0_, .ref a_37), (0, 3, a0_, .ref g76_0_3_a0_), (0, 0, a0_, .ref q0_), (0, 2, a0_, .ref q1_)]) rfl (fun fr_148 H locs hp hMr_148 g => ?_)
                                            obtain ⟨x_149, h_150, hF_151⟩ := hp
                                            have g := g.more hF_151
                                            refine lv_iload hx hb dX0_closeParts_220 (lv_at hl 0 rfl) ?_
                                            refine lv_bipush (v := 12) hx hb dX0_closeParts_222 (by decide) ?_
                                            refine lv_icmp_le (tgt := 245) hx hb dX0_closeParts_224 (by decide) (fun c_152 => ?_) (fun c_152 => ?_)
                                            · have fc_152 := le_f c_152
                                              have b_153 : bd (-2147483648) 12 y_147 := leL fc_152 (bdT y_147) kb_12 (by decide)
                                              obtain ⟨y_154, ey_154⟩ : ∃ z : Int32, z = v4_3 + 1 := ⟨_, rfl⟩
                                              refine lv_iinc (v := y_154) (lv' := [(3, .int y_154), (6, .int y_147), (2, .int 1), (5, .int 0), (4, .int x_57), (0, .ref a0_), (1, .int x1_)]) hx hb dX0_closeParts_245 hl (k := 4) rfl (by rw [ey_154]; rfl) (by decide) rfl (fun ls hl => ?_)
                                              have ty_154 := add_bd ey_154 b_48 kb_1 (by decide)
                                              have b_155 : bd 2 300 y_154 := add_rg ty_154 b_48 kb_1 (by decide)
                                              refine lv_goto (tgt := 4) hx hb dX0_closeParts_248 (by decide) ?_
                                              have hl9 := lv_sub hl [0, 1, 2, 3, 4, 5, 6] (by rfl : lv_pick [(3, .int y_154), (6, .int y_147), (2, .int 1), (5, .int 0), (4, .int x_57), (0, .ref a0_), (1, .int x1_)] [0, 1, 2, 3, 4, 5, 6] = [(3, .int y_154), (6, .int y_147), (2, .int 1), (5, .int 0), (4, .int x_57), (0, .ref a0_), (1, .int x1_)])
                                              have g9 := g.sub (fx' := [(8, 6, q0_, .int 1201), (8, 8, q0_, .int x_40), (0, 4, a0_, .ref a_37), (0, 12, a0_, .int 0), (0, 10, a0_, .int x_149), (7, 6, q1_, .int x_138), (0, 8, a0_, .int y_55), (0, 3, a0_, .ref g76_0_3_a0_), (0, 0, a0_, .ref q0_), (0, 2, a0_, .ref q1_)]) [4, 5, 6, 0, 1, 2, 3, 7, 8, 9] rfl
                                              exact ih4  y_154 y_147 1 0 x_57 x_149 x_138 y_55 (bd_sub b_155 (by decide)) (bd_sub kb_1 (by decide)) (bd_sub kb_0 (by decide)) h_150 h_139 (bd_sub b_56 (by decide)) (by have h9_0 := b_153; unfold bd at h9_0; have h9_1 := b_155; unfold bd at h9_1; have h9_2 := b_56; unfold bd at h9_2; have h9_3 := bdT v4_4; unfold bd at h9_3; have h9_4 := bdT v4_6; unfold bd at h9_4; have h9_5 := bdT x_57; unfold bd at h9_5; have h9_6 := bv4_2; unfold bd at h9_6; have h9_7 := bv4_3; unfold bd at h9_7; have h9_8 := bv4_5; unfold bd at h9_8; have h9_9 := bw4_0_10_a0_; unfold bd at h9_9; have h9_10 := bw4_0_8_a0_; unfold bd at h9_10; have h9_11 := bw4_7_6_q1_; unfold bd at h9_11; have h9_12 := h_139; unfold bd at h9_12; have h9_13 := h_150; unfold bd at h9_13; have h9_14 := kb_0; unfold bd at h9_14; have h9_15 := kb_1; unfold bd at h9_15; have h9_16 := kb_12; unfold bd at h9_16; have h9_17 := kb_205; unfold bd at h9_17; have h9_18 := kb_206; unfold bd at h9_18; have h9_19 := kb_300; unfold bd at h9_19; have h9_20 := kb_6; unfold bd at h9_20; have h9_21 := kb_7; unfold bd at h9_21; omega) _ _ _ _ g9  hl9
                                            · have fc_152 := nle_f c_152
                                              have b_156 : bd 13 2147483647 y_147 := ltR fc_152 kb_12 (bdT y_147) (by decide)
                                              refine lv_aload_n hx hb dX0_closeParts_227 rfl (lv_at hl 5 rfl) ?_
                                              refine g_getk (C := RX0) (T := TX0) (N := 14) hx hb hts (mc_ inX0) hown hK g rfl 0 (by decide) rfl (hts _ (List.mem_cons_of_mem _ t_373)) (fun _ h9 => h9) 8 rfl dX0_closeParts_228 ?_
                                              refine lv_bipush (v := 7) hx hb dX0_closeParts_231 (by decide) ?_
                                              refine lv_aload_n hx hb dX0_closeParts_233 rfl (lv_at hl 5 rfl) ?_
                                              refine g_getk (C := RX0) (T := TX0) (N := 14) hx hb hts (mc_ inX0) hown hK g rfl 4 (by decide) rfl (hts _ (List.mem_cons_of_mem _ t_377)) (fun _ h9 => h9) 6 rfl dX0_closeParts_234 ?_
                                              refine lv_aload_n hx hb dX0_closeParts_237 rfl (lv_at hl 5 rfl) ?_
                                              refine g_getk (C := RX0) (T := TX0) (N := 14) hx hb hts (mc_ inX0) hown hK g rfl 8 (by decide) rfl (hts _ (List.mem_cons_of_mem _ t_381)) (fun _ h9 => h9) 3 rfl dX0_closeParts_238 ?_
                                              refine g_iald hx hb hK g ma_37 ka_37 (by decide) rfl (in_bd b_56 (by decide)) dX0_closeParts_241 (fun x_157 bx_157 cx_157 => ?_)
                                              refine g_callv (va_runV (As := [.int 7, .int x_157]) (rest := []) ⟨hx, hb, hml, hown, hts⟩ (r_X8_fail_2 l dC dI L kd tys fr_148 H.size g.2.2.2.1 q0_ mq0_ kq0_ 7 (bd_sub kb_7 (by decide)) x_157 x_40 h_41 (g.fcts [5] rfl)) (cwV 2 hts (gV_ t_1215 t_1107 t_1108 t_184 t_1109) rfl rfl rfl (by decide +kernel) ⟨(Nat.le_of_ble_eq_true rfl), (Nat.le_of_ble_eq_true rfl)⟩) (pre3V g hK mq0_ kq0_ (by decide) (q := (RX8, TX8, 10)) rfl) rfl rfl hl.1 rfl (lv_room (Nat.le_of_ble_eq_true rfl)) dX0_closeParts_242 ⟨(Nat.le_of_ble_eq_true rfl), (Nat.le_of_ble_eq_true rfl)⟩) g hK (by decide) (by decide) (fx' := [(0, 12, a0_, .int 0), (0, 10, a0_, .int x_149), (7, 6, q1_, .int x_138), (0, 8, a0_, .int y_55), (8, 8, q0_, .int x_40), (0, 4, a0_, .ref a_37), (0, 3, a0_, .ref g76_0_3_a0_), (0, 0, a0_, .ref q0_), (0, 2, a0_, .ref q1_)]) rfl (fun fr_158 H locs hp hMr_158 g => ?_)
                                              have hF_159 := hp
                                              have g := g.more hF_159
                                              obtain ⟨y_160, ey_160⟩ : ∃ z : Int32, z = v4_3 + 1 := ⟨_, rfl⟩
                                              refine lv_iinc (v := y_160) (lv' := [(3, .int y_160), (6, .int y_147), (2, .int 1), (5, .int 0), (4, .int x_57), (0, .ref a0_), (1, .int x1_)]) hx hb dX0_closeParts_245 hl (k := 4) rfl (by rw [ey_160]; rfl) (by decide) rfl (fun ls hl => ?_)
                                              have ty_160 := add_bd ey_160 b_48 kb_1 (by decide)
                                              have b_161 : bd 2 300 y_160 := add_rg ty_160 b_48 kb_1 (by decide)
                                              refine lv_goto (tgt := 4) hx hb dX0_closeParts_248 (by decide) ?_
                                              have hl9 := lv_sub hl [0, 1, 2, 3, 4, 5, 6] (by rfl : lv_pick [(3, .int y_160), (6, .int y_147), (2, .int 1), (5, .int 0), (4, .int x_57), (0, .ref a0_), (1, .int x1_)] [0, 1, 2, 3, 4, 5, 6] = [(3, .int y_160), (6, .int y_147), (2, .int 1), (5, .int 0), (4, .int x_57), (0, .ref a0_), (1, .int x1_)])
                                              have g9 := g.sub (fx' := [(8, 6, q0_, .int 1201), (8, 8, q0_, .int x_40), (0, 4, a0_, .ref a_37), (0, 12, a0_, .int 0), (0, 10, a0_, .int x_149), (7, 6, q1_, .int x_138), (0, 8, a0_, .int y_55), (0, 3, a0_, .ref g76_0_3_a0_), (0, 0, a0_, .ref q0_), (0, 2, a0_, .ref q1_)]) [0, 5, 6, 1, 2, 3, 4, 7, 8, 9] rfl
                                              exact ih4  y_160 y_147 1 0 x_57 x_149 x_138 y_55 (bd_sub b_161 (by decide)) (bd_sub kb_1 (by decide)) (bd_sub kb_0 (by decide)) h_150 h_139 (bd_sub b_56 (by decide)) (by have h9_0 := b_156; unfold bd at h9_0; have h9_1 := b_161; unfold bd at h9_1; have h9_2 := b_56; unfold bd at h9_2; have h9_3 := bdT v4_4; unfold bd at h9_3; have h9_4 := bdT v4_6; unfold bd at h9_4; have h9_5 := bdT x_57; unfold bd at h9_5; have h9_6 := bv4_2; unfold bd at h9_6; have h9_7 := bv4_3; unfold bd at h9_7; have h9_8 := bv4_5; unfold bd at h9_8; have h9_9 := bw4_0_10_a0_; unfold bd at h9_9; have h9_10 := bw4_0_8_a0_; unfold bd at h9_10; have h9_11 := bw4_7_6_q1_; unfold bd at h9_11; have h9_12 := h_139; unfold bd at h9_12; have h9_13 := h_150; unfold bd at h9_13; have h9_14 := kb_0; unfold bd at h9_14; have h9_15 := kb_1; unfold bd at h9_15; have h9_16 := kb_12; unfold bd at h9_16; have h9_17 := kb_205; unfold bd at h9_17; have h9_18 := kb_206; unfold bd at h9_18; have h9_19 := kb_300; unfold bd at h9_19; have h9_20 := kb_6; unfold bd at h9_20; have h9_21 := kb_7; unfold bd at h9_21; omega) _ _ _ _ g9  hl9
                                          · have fc_136 := eq_f c_136
                                            have b_162 : bd 206 206 x_57 := eqX fc_136 (bdT x_57) kb_206 (by decide)
                                            refine lv_aload_n hx hb dX0_closeParts_152 rfl (lv_at hl 5 rfl) ?_
                                            refine g_getk (C := RX0) (T := TX0) (N := 14) hx hb hts (mc_ inX0) hown hK g rfl 2 (by decide) rfl (hts _ (List.mem_cons_of_mem _ t_375)) (fun _ h9 => h9) 9 rfl dX0_closeParts_153 ?_
                                            refine lv_bipush (v := 8) hx hb dX0_closeParts_156 (by decide) ?_
                                            refine lv_iconst (v := 0) hx hb dX0_closeParts_158 (by decide) ?_
                                            refine g_callv (va_runV (As := [.int 8, .int 0]) (rest := []) ⟨hx, hb, hml, hown, hts⟩ (r_X7_emit l dC dI L kd tys fr_102 H.size g.2.2.2.1 q1_ mq1_ kq1_ 8 0) (cwV 2 hts (gV_ t_1203 t_1204 t_1205 t_191 t_1206) rfl rfl rfl (by decide +kernel) ⟨(Nat.le_of_ble_eq_true rfl), (Nat.le_of_ble_eq_true rfl)⟩) (pre3V g hK mq1_ kq1_ (by decide) (q := (RX7, TX7, 19)) rfl) rfl rfl hl.1 rfl (lv_room (Nat.le_of_ble_eq_true rfl)) dX0_closeParts_159 ⟨(Nat.le_of_ble_eq_true rfl), (Nat.le_of_ble_eq_true rfl)⟩) g hK (by decide) (by decide) (fx' := [(0, 10, a0_, .int x_103), (0, 8, a0_, .int y_55), (8, 6, q0_, .int 1201), (8, 8, q0_, .int x_40), (0, 4, a0_, .ref a_37), (0, 12, a0_, .int 0), (0, 3, a0_, .ref g76_0_3_a0_), (0, 0, a0_, .ref q0_), (0, 2, a0_, .ref q1_)]) rfl (fun fr_163 H locs hp hMr_163 g => ?_)
                                            obtain ⟨x_164, h_165, hF_166⟩ := hp
                                            have g := g.more hF_166
                                            refine lv_aload_n hx hb dX0_closeParts_162 rfl (lv_at hl 5 rfl) ?_
                                            refine g_getk (C := RX0) (T := TX0) (N := 14) hx hb hts (mc_ inX0) hown hK g rfl 2 (by decide) rfl (hts _ (List.mem_cons_of_mem _ t_375)) (fun _ h9 => h9) 9 rfl dX0_closeParts_163 ?_
                                            refine lv_aload_n hx hb dX0_closeParts_166 rfl (lv_at hl 5 rfl) ?_
                                            refine g_getr (K := 112) (C := RX0) (T := TX0) (N := 14) hx hb hts (mc_ inX0) hown hK g ma0_ ka0_ (by decide) rfl 5 (by decide) rfl (hts _ (List.mem_cons_of_mem _ t_378)) (fun _ h9 => h9) rfl dX0_closeParts_167 (fun a_167 ma_167 ka_167 g => ?_)
                                            refine lv_aload_n hx hb dX0_closeParts_170 rfl (lv_at hl 5 rfl) ?_
                                            refine g_getk (C := RX0) (T := TX0) (N := 14) hx hb hts (mc_ inX0) hown hK g rfl 8 (by decide) rfl (hts _ (List.mem_cons_of_mem _ t_381)) (fun _ h9 => h9) 3 rfl dX0_closeParts_171 ?_
                                            refine g_iald hx hb hK g ma_167 ka_167 (by decide) rfl (in_bd b_56 (by decide)) dX0_closeParts_174 (fun x_168 bx_168 cx_168 => ?_)
                                            refine g_callv (va_runV (As := [.int x_168]) (rest := []) ⟨hx, hb, hml, hown, hts⟩ (r_X7_leadHere l dC dI L kd tys fr_163 H.size g.2.2.2.1 q1_ mq1_ kq1_ x_168) (cwV 1 hts (gV_ t_1207 t_1208 t_1209 t_191 t_1210) rfl rfl rfl (by decide +kernel) ⟨(Nat.le_of_ble_eq_true rfl), (Nat.le_of_ble_eq_true rfl)⟩) (pre3V g hK mq1_ kq1_ (by decide) (q := (RX7, TX7, 19)) rfl) rfl rfl hl.1 rfl (lv_room (Nat.le_of_ble_eq_true rfl)) dX0_closeParts_175 ⟨(Nat.le_of_ble_eq_true rfl), (Nat.le_of_ble_eq_true rfl)⟩) g hK (by decide) (by decide) (fx' := [(0, 5, a0_, .ref a_167), (7, 6, q1_, .int x_164), (0, 10, a0_, .int x_103), (0, 8, a0_, .int y_55), (8, 6, q0_, .int 1201), (8, 8, q0_, .int x_40), (0, 4, a0_, .ref a_37), (0, 12, a0_, .int 0), (0, 3, a0_, .ref g76_0_3_a0_), (0, 0, a0_, .ref q0_), (0, 2, a0_, .ref q1_)]) rfl (fun fr_169 H locs hp hMr_169 g => ?_)
                                            refine lv_goto (tgt := 191) hx hb dX0_closeParts_178 (by decide) ?_
                                            refine lv_iconst (v := 1) hx hb dX0_closeParts_191 (by decide) ?_
                                            refine lv_iload hx hb dX0_closeParts_192 (lv_at hl 2 rfl) ?_
                                            refine lv_if_eq (tgt := 202) hx hb dX0_closeParts_194 (by decide) (fun c_ => ?_) (fun c_ => absurd (by decide) c_)
                                            refine lv_iload hx hb dX0_closeParts_202 (lv_at hl 0 rfl) ?_
                                            refine lv_aload_n hx hb dX0_closeParts_204 rfl (lv_at hl 5 rfl) ?_
                                            refine g_calli (va_runV (As := []) (rest := [.int r_102, .int 1]) ⟨hx, hb, hml, hown, hts⟩ (r_X0_takeHeight l dC dI L kd tys fr_169 H.size g.2.2.2.1 a0_ ma0_ ka0_) (cwV 0 hts (gV_ t_1199 t_1201 t_16 t_190 t_1202) rfl rfl rfl (by decide +kernel) ⟨(Nat.le_of_ble_eq_true rfl), (Nat.le_of_ble_eq_true rfl)⟩) (pre3V g hK ma0_ ka0_ (by decide) (q := (RX0, TX0, 14)) rfl) rfl rfl hl.1 rfl (lv_room (Nat.le_of_ble_eq_true rfl)) dX0_closeParts_205 ⟨(Nat.le_of_ble_eq_true rfl), (Nat.le_of_ble_eq_true rfl)⟩) g hK (by decide) (by decide) (fx' := [(0, 5, a0_, .ref a_167), (7, 6, q1_, .int x_164), (0, 8, a0_, .int y_55), (8, 6, q0_, .int 1201), (8, 8, q0_, .int x_40), (0, 4, a0_, .ref a_37), (0, 12, a0_, .int 0), (0, 3, a0_, .ref g76_0_3_a0_), (0, 0, a0_, .ref q0_), (0, 2, a0_, .ref q1_)]) rfl (fun r_170 fr_170 H locs hp hMr_170 g => ?_)
                                            obtain ⟨x_171, h_172, hF_173⟩ := hp
                                            have g := g.more hF_173
                                            refine va_mmax hx hb (hml.trans hl.1.symm) hown (hts _ (List.mem_cons_of_mem _ t_1194)) (hts _ (List.mem_cons_of_mem _ t_1041)) (hts _ (List.mem_cons_of_mem _ t_204)) (hts _ (List.mem_cons_of_mem _ t_1042)) (Nat.le_of_ble_eq_true rfl) (Nat.le_of_ble_eq_true rfl) (Nat.le_of_ble_eq_true rfl) (Nat.le_of_ble_eq_true rfl) dX0_closeParts_208 ?_
                                            refine lv_topi (fun y_174 ey_174 => ?_)
                                            have ty_174 : y_174.toInt = max r_102.toInt r_170.toInt := by rw [ey_174]; exact mmax_ok _ _
                                            have b_175 : bd (-2147483648) 2147483647 y_174 := max_rg ty_174 (bdT r_102) (bdT r_170) (by decide)
                                            refine lv_iadd hx hb dX0_closeParts_211 ?_
                                            refine lv_topi (fun y_176 ey_176 => ?_)
                                            refine lv_istore (lv' := [(6, .int y_176), (2, .int 1), (5, .int 0), (4, .int x_57), (3, .int v4_3), (0, .ref a0_), (1, .int x1_)]) hx hb dX0_closeParts_212 hl (by decide) rfl (fun ls hl => ?_)
                                            refine lv_aload_n hx hb dX0_closeParts_214 rfl (lv_at hl 5 rfl) ?_
                                            refine lv_iload hx hb dX0_closeParts_215 (lv_at hl 0 rfl) ?_
                                            refine g_callv (va_runV (As := [.int y_176]) (rest := []) ⟨hx, hb, hml, hown, hts⟩ (r_X0_addWhole l dC dI L kd tys fr_170 H.size g.2.2.2.1 a0_ ma0_ ka0_ y_176) (cwV 1 hts (gV_ t_1211 t_1213 t_17 t_190 t_1214) rfl rfl rfl (by decide +kernel) ⟨(Nat.le_of_ble_eq_true rfl), (Nat.le_of_ble_eq_true rfl)⟩) (pre3V g hK ma0_ ka0_ (by decide) (q := (RX0, TX0, 14)) rfl) rfl rfl hl.1 rfl (lv_room (Nat.le_of_ble_eq_true rfl)) dX0_closeParts_217 ⟨(Nat.le_of_ble_eq_true rfl), (Nat.le_of_ble_eq_true rfl)⟩) g hK (by decide) (by decide) (fx' := [(0, 5, a0_, .ref a_167), (7, 6, q1_, .int x_164), (0, 8, a0_, .int y_55), (8, 6, q0_, .int 1201), (8, 8, q0_, .int x_40), (0, 4, a0_, .ref a_37), (0, 3, a0_, .ref g76_0_3_a0_), (0, 0, a0_, .ref q0_), (0, 2, a0_, .ref q1_)]) rfl (fun fr_177 H locs hp hMr_177 g => ?_)
                                            obtain ⟨x_178, h_179, hF_180⟩ := hp
                                            have g := g.more hF_180
                                            refine lv_iload hx hb dX0_closeParts_220 (lv_at hl 0 rfl) ?_
                                            refine lv_bipush (v := 12) hx hb dX0_closeParts_222 (by decide) ?_
                                            refine lv_icmp_le (tgt := 245) hx hb dX0_closeParts_224 (by decide) (fun c_181 => ?_) (fun c_181 => ?_)
                                            · have fc_181 := le_f c_181
                                              have b_182 : bd (-2147483648) 12 y_176 := leL fc_181 (bdT y_176) kb_12 (by decide)
                                              obtain ⟨y_183, ey_183⟩ : ∃ z : Int32, z = v4_3 + 1 := ⟨_, rfl⟩
                                              refine lv_iinc (v := y_183) (lv' := [(3, .int y_183), (6, .int y_176), (2, .int 1), (5, .int 0), (4, .int x_57), (0, .ref a0_), (1, .int x1_)]) hx hb dX0_closeParts_245 hl (k := 4) rfl (by rw [ey_183]; rfl) (by decide) rfl (fun ls hl => ?_)
                                              have ty_183 := add_bd ey_183 b_48 kb_1 (by decide)
                                              have b_184 : bd 2 300 y_183 := add_rg ty_183 b_48 kb_1 (by decide)
                                              refine lv_goto (tgt := 4) hx hb dX0_closeParts_248 (by decide) ?_
                                              have hl9 := lv_sub hl [0, 1, 2, 3, 4, 5, 6] (by rfl : lv_pick [(3, .int y_183), (6, .int y_176), (2, .int 1), (5, .int 0), (4, .int x_57), (0, .ref a0_), (1, .int x1_)] [0, 1, 2, 3, 4, 5, 6] = [(3, .int y_183), (6, .int y_176), (2, .int 1), (5, .int 0), (4, .int x_57), (0, .ref a0_), (1, .int x1_)])
                                              have g9 := g.sub (fx' := [(8, 6, q0_, .int 1201), (8, 8, q0_, .int x_40), (0, 4, a0_, .ref a_37), (0, 12, a0_, .int 0), (0, 10, a0_, .int x_178), (7, 6, q1_, .int x_164), (0, 8, a0_, .int y_55), (0, 3, a0_, .ref g76_0_3_a0_), (0, 0, a0_, .ref q0_), (0, 2, a0_, .ref q1_)]) [5, 6, 7, 0, 1, 3, 4, 8, 9, 10] rfl
                                              exact ih4  y_183 y_176 1 0 x_57 x_178 x_164 y_55 (bd_sub b_184 (by decide)) (bd_sub kb_1 (by decide)) (bd_sub kb_0 (by decide)) h_179 h_165 (bd_sub b_56 (by decide)) (by have h9_0 := b_162; unfold bd at h9_0; have h9_1 := b_182; unfold bd at h9_1; have h9_2 := b_184; unfold bd at h9_2; have h9_3 := b_56; unfold bd at h9_3; have h9_4 := bdT v4_4; unfold bd at h9_4; have h9_5 := bdT v4_6; unfold bd at h9_5; have h9_6 := bv4_2; unfold bd at h9_6; have h9_7 := bv4_3; unfold bd at h9_7; have h9_8 := bv4_5; unfold bd at h9_8; have h9_9 := bw4_0_10_a0_; unfold bd at h9_9; have h9_10 := bw4_0_8_a0_; unfold bd at h9_10; have h9_11 := bw4_7_6_q1_; unfold bd at h9_11; have h9_12 := h_165; unfold bd at h9_12; have h9_13 := h_179; unfold bd at h9_13; have h9_14 := kb_0; unfold bd at h9_14; have h9_15 := kb_1; unfold bd at h9_15; have h9_16 := kb_12; unfold bd at h9_16; have h9_17 := kb_205; unfold bd at h9_17; have h9_18 := kb_206; unfold bd at h9_18; have h9_19 := kb_300; unfold bd at h9_19; have h9_20 := kb_6; unfold bd at h9_20; have h9_21 := kb_7; unfold bd at h9_21; omega) _ _ _ _ g9  hl9
                                            · have fc_181 := nle_f c_181
                                              have b_185 : bd 13 2147483647 y_176 := ltR fc_181 kb_12 (bdT y_176) (by decide)
                                              refine lv_aload_n hx hb dX0_closeParts_227 rfl (lv_at hl 5 rfl) ?_
                                              refine g_getk (C := RX0) (T := TX0) (N := 14) hx hb hts (mc_ inX0) hown hK g rfl 0 (by decide) rfl (hts _ (List.mem_cons_of_mem _ t_373)) (fun _ h9 => h9) 9 rfl dX0_closeParts_228 ?_
                                              refine lv_bipush (v := 7) hx hb dX0_closeParts_231 (by decide) ?_
                                              refine lv_aload_n hx hb dX0_closeParts_233 rfl (lv_at hl 5 rfl) ?_
                                              refine g_getk (C := RX0) (T := TX0) (N := 14) hx hb hts (mc_ inX0) hown hK g rfl 4 (by decide) rfl (hts _ (List.mem_cons_of_mem _ t_377)) (fun _ h9 => h9) 7 rfl dX0_closeParts_234 ?_
                                              refine lv_aload_n hx hb dX0_closeParts_237 rfl (lv_at hl 5 rfl) ?_
                                              refine g_getk (C := RX0) (T := TX0) (N := 14) hx hb hts (mc_ inX0) hown hK g rfl 8 (by decide) rfl (hts _ (List.mem_cons_of_mem _ t_381)) (fun _ h9 => h9) 4 rfl dX0_closeParts_238 ?_
                                              refine g_iald hx hb hK g ma_37 ka_37 (by decide) rfl (in_bd b_56 (by decide)) dX0_closeParts_241 (fun x_186 bx_186 cx_186 => ?_)
                                              refine g_callv (va_runV (As := [.int 7, .int x_186]) (rest := []) ⟨hx, hb, hml, hown, hts⟩ (r_X8_fail_2 l dC dI L kd tys fr_177 H.size g.2.2.2.1 q0_ mq0_ kq0_ 7 (bd_sub kb_7 (by decide)) x_186 x_40 h_41 (g.fcts [6] rfl)) (cwV 2 hts (gV_ t_1215 t_1107 t_1108 t_184 t_1109) rfl rfl rfl (by decide +kernel) ⟨(Nat.le_of_ble_eq_true rfl), (Nat.le_of_ble_eq_true rfl)⟩) (pre3V g hK mq0_ kq0_ (by decide) (q := (RX8, TX8, 10)) rfl) rfl rfl hl.1 rfl (lv_room (Nat.le_of_ble_eq_true rfl)) dX0_closeParts_242 ⟨(Nat.le_of_ble_eq_true rfl), (Nat.le_of_ble_eq_true rfl)⟩) g hK (by decide) (by decide) (fx' := [(0, 12, a0_, .int 0), (0, 10, a0_, .int x_178), (0, 5, a0_, .ref a_167), (7, 6, q1_, .int x_164), (0, 8, a0_, .int y_55), (8, 8, q0_, .int x_40), (0, 4, a0_, .ref a_37), (0, 3, a0_, .ref g76_0_3_a0_), (0, 0, a0_, .ref q0_), (0, 2, a0_, .ref q1_)]) rfl (fun fr_187 H locs hp hMr_187 g => ?_)
                                              have hF_188 := hp
                                              have g := g.more hF_188
                                              obtain ⟨y_189, ey_189⟩ : ∃ z : Int32, z = v4_3 + 1 := ⟨_, rfl⟩
                                              refine lv_iinc (v := y_189) (lv' := [(3, .int y_189), (6, .int y_176), (2, .int 1), (5, .int 0), (4, .int x_57), (0, .ref a0_), (1, .int x1_)]) hx hb dX0_closeParts_245 hl (k := 4) rfl (by rw [ey_189]; rfl) (by decide) rfl (fun ls hl => ?_)
                                              have ty_189 := add_bd ey_189 b_48 kb_1 (by decide)
                                              have b_190 : bd 2 300 y_189 := add_rg ty_189 b_48 kb_1 (by decide)
                                              refine lv_goto (tgt := 4) hx hb dX0_closeParts_248 (by decide) ?_
                                              have hl9 := lv_sub hl [0, 1, 2, 3, 4, 5, 6] (by rfl : lv_pick [(3, .int y_189), (6, .int y_176), (2, .int 1), (5, .int 0), (4, .int x_57), (0, .ref a0_), (1, .int x1_)] [0, 1, 2, 3, 4, 5, 6] = [(3, .int y_189), (6, .int y_176), (2, .int 1), (5, .int 0), (4, .int x_57), (0, .ref a0_), (1, .int x1_)])
                                              have g9 := g.sub (fx' := [(8, 6, q0_, .int 1201), (8, 8, q0_, .int x_40), (0, 4, a0_, .ref a_37), (0, 12, a0_, .int 0), (0, 10, a0_, .int x_178), (7, 6, q1_, .int x_164), (0, 8, a0_, .int y_55), (0, 3, a0_, .ref g76_0_3_a0_), (0, 0, a0_, .ref q0_), (0, 2, a0_, .ref q1_)]) [0, 6, 7, 1, 2, 4, 5, 8, 9, 10] rfl
                                              exact ih4  y_189 y_176 1 0 x_57 x_178 x_164 y_55 (bd_sub b_190 (by decide)) (bd_sub kb_1 (by decide)) (bd_sub kb_0 (by decide)) h_179 h_165 (bd_sub b_56 (by decide)) (by have h9_0 := b_162; unfold bd at h9_0; have h9_1 := b_185; unfold bd at h9_1; have h9_2 := b_190; unfold bd at h9_2; have h9_3 := b_56; unfold bd at h9_3; have h9_4 := bdT v4_4; unfold bd at h9_4; have h9_5 := bdT v4_6; unfold bd at h9_5; have h9_6 := bv4_2; unfold bd at h9_6; have h9_7 := bv4_3; unfold bd at h9_7; have h9_8 := bv4_5; unfold bd at h9_8; have h9_9 := bw4_0_10_a0_; unfold bd at h9_9; have h9_10 := bw4_0_8_a0_; unfold bd at h9_10; have h9_11 := bw4_7_6_q1_; unfold bd at h9_11; have h9_12 := h_165; unfold bd at h9_12; have h9_13 := h_179; unfold bd at h9_13; have h9_14 := kb_0; unfold bd at h9_14; have h9_15 := kb_1; unfold bd at h9_15; have h9_16 := kb_12; unfold bd at h9_16; have h9_17 := kb_205; unfold bd at h9_17; have h9_18 := kb_206; unfold bd at h9_18; have h9_19 := kb_300; unfold bd at h9_19; have h9_20 := kb_6; unfold bd at h9_20; have h9_21 := kb_7; unfold bd at h9_21; omega) _ _ _ _ g9  hl9
                                    · have b_191 : bd 37 206 x_57 := eqX rfl (bdT x_57) h_94 (by decide)
                                      refine lv_iload_n hx hb dX0_closeParts_66 rfl (lv_at hl 6 rfl) ?_
                                      refine lv_icmp_lt (tgt := 74) hx hb dX0_closeParts_67 (by decide) (fun c_192 => ?_) (fun c_192 => ?_)
                                      · have fc_192 := lt_f c_192
                                        have b_193 : bd 2 2147483647 x1_ := ltR fc_192 h_93 (bdT x1_) (by decide)
                                        refine lv_iconst (v := 0) hx hb dX0_closeParts_74 (by decide) ?_
                                        refine lv_istore_n (lv' := [(2, .int 0), (5, .int 0), (4, .int x_57), (3, .int v4_3), (6, .int v4_6), (0, .ref a0_), (1, .int x1_)]) hx hb dX0_closeParts_75 rfl hl (by decide) rfl (fun ls hl => ?_)
                                        refine lv_iload_n hx hb dX0_closeParts_76 rfl (lv_at hl 0 rfl) ?_
                                        refine lv_if_eq (tgt := 245) hx hb dX0_closeParts_77 (by decide) (fun c_ => ?_) (fun c_ => absurd (by decide) c_)
                                        obtain ⟨y_194, ey_194⟩ : ∃ z : Int32, z = v4_3 + 1 := ⟨_, rfl⟩
                                        refine lv_iinc (v := y_194) (lv' := [(3, .int y_194), (2, .int 0), (5, .int 0), (4, .int x_57), (6, .int v4_6), (0, .ref a0_), (1, .int x1_)]) hx hb dX0_closeParts_245 hl (k := 3) rfl (by rw [ey_194]; rfl) (by decide) rfl (fun ls hl => ?_)
                                        have ty_194 := add_bd ey_194 b_48 kb_1 (by decide)
                                        have b_195 : bd 2 300 y_194 := add_rg ty_194 b_48 kb_1 (by decide)
                                        refine lv_goto (tgt := 4) hx hb dX0_closeParts_248 (by decide) ?_
                                        have hl9 := lv_sub hl [0, 4, 1, 2, 3, 5, 6] (by rfl : lv_pick [(3, .int y_194), (2, .int 0), (5, .int 0), (4, .int x_57), (6, .int v4_6), (0, .ref a0_), (1, .int x1_)] [0, 4, 1, 2, 3, 5, 6] = [(3, .int y_194), (6, .int v4_6), (2, .int 0), (5, .int 0), (4, .int x_57), (0, .ref a0_), (1, .int x1_)])
                                        have g9 := g.sub (fx' := [(8, 6, q0_, .int 1201), (8, 8, q0_, .int x_40), (0, 4, a0_, .ref a_37), (0, 12, a0_, .int 0), (0, 10, a0_, .int w4_0_10_a0_), (7, 6, q1_, .int w4_7_6_q1_), (0, 8, a0_, .int w4_0_8_a0_), (0, 3, a0_, .ref g76_0_3_a0_), (0, 0, a0_, .ref q0_), (0, 2, a0_, .ref q1_)]) [0, 1, 2, 3, 4, 5, 6, 7, 8, 9] rfl
                                        exact ih4  y_194 v4_6 0 0 x_57 w4_0_10_a0_ w4_7_6_q1_ w4_0_8_a0_ (bd_sub b_195 (by decide)) (bd_sub kb_0 (by decide)) (bd_sub kb_0 (by decide)) bw4_0_10_a0_ bw4_7_6_q1_ (bd_sub b_54 (by decide)) (by have h9_0 := b_191; unfold bd at h9_0; have h9_1 := b_195; unfold bd at h9_1; have h9_2 := b_54; unfold bd at h9_2; have h9_3 := bdT v4_4; unfold bd at h9_3; have h9_4 := bdT v4_6; unfold bd at h9_4; have h9_5 := bv4_2; unfold bd at h9_5; have h9_6 := bv4_3; unfold bd at h9_6; have h9_7 := bv4_5; unfold bd at h9_7; have h9_8 := bw4_0_10_a0_; unfold bd at h9_8; have h9_9 := bw4_0_8_a0_; unfold bd at h9_9; have h9_10 := bw4_7_6_q1_; unfold bd at h9_10; have h9_11 := kb_0; unfold bd at h9_11; have h9_12 := kb_1; unfold bd at h9_12; have h9_13 := kb_12; unfold bd at h9_13; have h9_14 := kb_300; unfold bd at h9_14; have h9_15 := kb_6; unfold bd at h9_15; have h9_16 := kb_7; unfold bd at h9_16; omega) _ _ _ _ g9  hl9
                                      · have fc_192 := nlt_f c_192
                                        have b_196 : bd (-2147483648) 5 x1_ := leL fc_192 (bdT x1_) h_93 (by decide)
                                        refine lv_iconst (v := 1) hx hb dX0_closeParts_70 (by decide) ?_
                                        refine lv_goto (tgt := 75) hx hb dX0_closeParts_71 (by decide) ?_
                                        refine lv_istore_n (lv' := [(2, .int 1), (5, .int 0), (4, .int x_57), (3, .int v4_3), (6, .int v4_6), (0, .ref a0_), (1, .int x1_)]) hx hb dX0_closeParts_75 rfl hl (by decide) rfl (fun ls hl => ?_)
                                        refine lv_iload_n hx hb dX0_closeParts_76 rfl (lv_at hl 0 rfl) ?_
                                        refine lv_if_eq (tgt := 245) hx hb dX0_closeParts_77 (by decide) (fun c_ => absurd c_ (by decide)) (fun c_ => ?_)
                                        refine lv_aload_n hx hb dX0_closeParts_80 rfl (lv_at hl 5 rfl) ?_
                                        refine lv_dup hx hb dX0_closeParts_81 rfl ?_
                                        refine g_getk (C := RX0) (T := TX0) (N := 14) hx hb hts (mc_ inX0) hown hK g rfl 8 (by decide) rfl (hts _ (List.mem_cons_of_mem _ t_381)) (fun _ h9 => h9) 6 rfl dX0_closeParts_82 ?_
                                        refine lv_iconst (v := 1) hx hb dX0_closeParts_85 (by decide) ?_
                                        refine lv_isub hx hb dX0_closeParts_86 ?_
                                        refine lv_topi (fun y_197 ey_197 => ?_)
                                        obtain rfl : y_55 = y_197 := ey_55.trans ey_197.symm
                                        refine g_put (C := RX0) (T := TX0) (N := 14) hx hb hts (mc_ inX0) tyX0 tyX0_ok nmX0 hown hK g ma0_ ka0_ (by decide) rfl 8 (by decide) (hts _ (List.mem_cons_of_mem _ t_381)) (fun _ h9 => h9) rfl rfl (okV_i (bd_sub b_56 (by decide))) rfl rfl (by decide) (Or.inr (Or.inl (by decide))) (fx' := [(8, 6, q0_, .int 1201), (8, 8, q0_, .int x_40), (0, 4, a0_, .ref a_37), (0, 12, a0_, .int 0), (0, 10, a0_, .int w4_0_10_a0_), (7, 6, q1_, .int w4_7_6_q1_), (0, 3, a0_, .ref g76_0_3_a0_), (0, 0, a0_, .ref q0_), (0, 2, a0_, .ref q1_)]) rfl dX0_closeParts_87 (fun f H locs hM_198 g => ?_)
                                        refine lv_aload_n hx hb dX0_closeParts_90 rfl (lv_at hl 5 rfl) ?_
                                        refine g_calli (va_runV (As := []) (rest := []) ⟨hx, hb, hml, hown, hts⟩ (r_X0_takeHeight l dC dI L kd tys f H.size g.2.2.2.1 a0_ ma0_ ka0_) (cwV 0 hts (gV_ t_1199 t_1201 t_16 t_190 t_1202) rfl rfl rfl (by decide +kernel) ⟨(Nat.le_of_ble_eq_true rfl), (Nat.le_of_ble_eq_true rfl)⟩) (pre3V g hK ma0_ ka0_ (by decide) (q := (RX0, TX0, 14)) rfl) rfl rfl hl.1 rfl (lv_room (Nat.le_of_ble_eq_true rfl)) dX0_closeParts_91 ⟨(Nat.le_of_ble_eq_true rfl), (Nat.le_of_ble_eq_true rfl)⟩) g hK (by decide) (by decide) (fx' := [(0, 8, a0_, .int y_55), (8, 6, q0_, .int 1201), (8, 8, q0_, .int x_40), (0, 4, a0_, .ref a_37), (0, 12, a0_, .int 0), (7, 6, q1_, .int w4_7_6_q1_), (0, 3, a0_, .ref g76_0_3_a0_), (0, 0, a0_, .ref q0_), (0, 2, a0_, .ref q1_)]) rfl (fun r_199 fr_199 H locs hp hMr_199 g => ?_)
                                        obtain ⟨x_200, h_201, hF_202⟩ := hp
                                        have g := g.more hF_202
                                        refine lv_istore (lv' := [(6, .int r_199), (2, .int 1), (5, .int 0), (4, .int x_57), (3, .int v4_3), (0, .ref a0_), (1, .int x1_)]) hx hb dX0_closeParts_94 hl (by decide) rfl (fun ls hl => ?_)
                                        refine lv_iload hx hb dX0_closeParts_96 (lv_at hl 2 rfl) ?_
                                        refine lv_if_eq (tgt := 136) hx hb dX0_closeParts_98 (by decide) (fun c_ => ?_) (fun c_ => absurd (by decide) c_)
                                        refine lv_iload hx hb dX0_closeParts_136 (lv_at hl 3 rfl) ?_
                                        refine lv_sipush (v := 205) hx hb dX0_closeParts_138 (by decide) ?_
                                        have kb_205 : bd 205 205 (205 : Int32) := ⟨by decide, by decide⟩
                                        refine lv_icmp_eq (tgt := 152) hx hb dX0_closeParts_141 (by decide) (fun c_203 => ?_) (fun c_203 => ?_)
                                        · have fc_203 := eq_f c_203
                                          have b_204 : bd 205 205 x_57 := eqX fc_203 b_191 kb_205 (by decide)
                                          refine lv_aload_n hx hb dX0_closeParts_152 rfl (lv_at hl 5 rfl) ?_
                                          refine g_getk (C := RX0) (T := TX0) (N := 14) hx hb hts (mc_ inX0) hown hK g rfl 2 (by decide) rfl (hts _ (List.mem_cons_of_mem _ t_375)) (fun _ h9 => h9) 9 rfl dX0_closeParts_153 ?_
                                          refine lv_bipush (v := 8) hx hb dX0_closeParts_156 (by decide) ?_
                                          refine lv_iconst (v := 0) hx hb dX0_closeParts_158 (by decide) ?_
                                          refine g_callv (va_runV (As := [.int 8, .int 0]) (rest := []) ⟨hx, hb, hml, hown, hts⟩ (r_X7_emit l dC dI L kd tys fr_199 H.size g.2.2.2.1 q1_ mq1_ kq1_ 8 0) (cwV 2 hts (gV_ t_1203 t_1204 t_1205 t_191 t_1206) rfl rfl rfl (by decide +kernel) ⟨(Nat.le_of_ble_eq_true rfl), (Nat.le_of_ble_eq_true rfl)⟩) (pre3V g hK mq1_ kq1_ (by decide) (q := (RX7, TX7, 19)) rfl) rfl rfl hl.1 rfl (lv_room (Nat.le_of_ble_eq_true rfl)) dX0_closeParts_159 ⟨(Nat.le_of_ble_eq_true rfl), (Nat.le_of_ble_eq_true rfl)⟩) g hK (by decide) (by decide) (fx' := [(0, 10, a0_, .int x_200), (0, 8, a0_, .int y_55), (8, 6, q0_, .int 1201), (8, 8, q0_, .int x_40), (0, 4, a0_, .ref a_37), (0, 12, a0_, .int 0), (0, 3, a0_, .ref g76_0_3_a0_), (0, 0, a0_, .ref q0_), (0, 2, a0_, .ref q1_)]) rfl (fun fr_205 H locs hp hMr_205 g => ?_)
                                          obtain ⟨x_206, h_207, hF_208⟩ := hp
                                          have g := g.more hF_208
                                          refine lv_aload_n hx hb dX0_closeParts_162 rfl (lv_at hl 5 rfl) ?_
                                          refine g_getk (C := RX0) (T := TX0) (N := 14) hx hb hts (mc_ inX0) hown hK g rfl 2 (by decide) rfl (hts _ (List.mem_cons_of_mem _ t_375)) (fun _ h9 => h9) 9 rfl dX0_closeParts_163 ?_
                                          refine lv_aload_n hx hb dX0_closeParts_166 rfl (lv_at hl 5 rfl) ?_
                                          refine g_getr (K := 112) (C := RX0) (T := TX0) (N := 14) hx hb hts (mc_ inX0) hown hK g ma0_ ka0_ (by decide) rfl 5 (by decide) rfl (hts _ (List.mem_cons_of_mem _ t_378)) (fun _ h9 => h9) rfl dX0_closeParts_167 (fun a_209 ma_209 ka_209 g => ?_)
                                          refine lv_aload_n hx hb dX0_closeParts_170 rfl (lv_at hl 5 rfl) ?_
                                          refine g_getk (C := RX0) (T := TX0) (N := 14) hx hb hts (mc_ inX0) hown hK g rfl 8 (by decide) rfl (hts _ (List.mem_cons_of_mem _ t_381)) (fun _ h9 => h9) 3 rfl dX0_closeParts_171 ?_
                                          refine g_iald hx hb hK g ma_209 ka_209 (by decide) rfl (in_bd b_56 (by decide)) dX0_closeParts_174 (fun x_210 bx_210 cx_210 => ?_)
                                          refine g_callv (va_runV (As := [.int x_210]) (rest := []) ⟨hx, hb, hml, hown, hts⟩ (r_X7_leadHere l dC dI L kd tys fr_205 H.size g.2.2.2.1 q1_ mq1_ kq1_ x_210) (cwV 1 hts (gV_ t_1207 t_1208 t_1209 t_191 t_1210) rfl rfl rfl (by decide +kernel) ⟨(Nat.le_of_ble_eq_true rfl), (Nat.le_of_ble_eq_true rfl)⟩) (pre3V g hK mq1_ kq1_ (by decide) (q := (RX7, TX7, 19)) rfl) rfl rfl hl.1 rfl (lv_room (Nat.le_of_ble_eq_true rfl)) dX0_closeParts_175 ⟨(Nat.le_of_ble_eq_true rfl), (Nat.le_of_ble_eq_true rfl)⟩) g hK (by decide) (by decide) (fx' := [(0, 5, a0_, .ref a_209), (7, 6, q1_, .int x_206), (0, 10, a0_, .int x_200), (0, 8, a0_, .int y_55), (8, 6, q0_, .int 1201), (8, 8, q0_, .int x_40), (0, 4, a0_, .ref a_37), (0, 12, a0_, .int 0), (0, 3, a0_, .ref g76_0_3_a0_), (0, 0, a0_, .ref q0_), (0, 2, a0_, .ref q1_)]) rfl (fun fr_211 H locs hp hMr_211 g => ?_)
                                          refine lv_goto (tgt := 191) hx hb dX0_closeParts_178 (by decide) ?_
                                          refine lv_iconst (v := 1) hx hb dX0_closeParts_191 (by decide) ?_
                                          refine lv_iload hx hb dX0_closeParts_192 (lv_at hl 2 rfl) ?_
                                          refine lv_if_eq (tgt := 202) hx hb dX0_closeParts_194 (by decide) (fun c_ => ?_) (fun c_ => absurd (by decide) c_)
                                          refine lv_iload hx hb dX0_closeParts_202 (lv_at hl 0 rfl) ?_
                                          refine lv_aload_n hx hb dX0_closeParts_204 rfl (lv_at hl 5 rfl) ?_
                                          refine g_calli (va_runV (As := []) (rest := [.int r_199, .int 1]) ⟨hx, hb, hml, hown, hts⟩ (r_X0_takeHeight l dC dI L kd tys fr_211 H.size g.2.2.2.1 a0_ ma0_ ka0_) (cwV 0 hts (gV_ t_1199 t_1201 t_16 t_190 t_1202) rfl rfl rfl (by decide +kernel) ⟨(Nat.le_of_ble_eq_true rfl), (Nat.le_of_ble_eq_true rfl)⟩) (pre3V g hK ma0_ ka0_ (by decide) (q := (RX0, TX0, 14)) rfl) rfl rfl hl.1 rfl (lv_room (Nat.le_of_ble_eq_true rfl)) dX0_closeParts_205 ⟨(Nat.le_of_ble_eq_true rfl), (Nat.le_of_ble_eq_true rfl)⟩) g hK (by decide) (by decide) (fx' := [(0, 5, a0_, .ref a_209), (7, 6, q1_, .int x_206), (0, 8, a0_, .int y_55), (8, 6, q0_, .int 1201), (8, 8, q0_, .int x_40), (0, 4, a0_, .ref a_37), (0, 12, a0_, .int 0), (0, 3, a0_, .ref g76_0_3_a0_), (0, 0, a0_, .ref q0_), (0, 2, a0_, .ref q1_)]) rfl (fun r_212 fr_212 H locs hp hMr_212 g => ?_)
                                          obtain ⟨x_213, h_214, hF_215⟩ := hp
                                          have g := g.more hF_215
                                          refine va_mmax hx hb (hml.trans hl.1.symm) hown (hts _ (List.mem_cons_of_mem _ t_1194)) (hts _ (List.mem_cons_of_mem _ t_1041)) (hts _ (List.mem_cons_of_mem _ t_204)) (hts _ (List.mem_cons_of_mem _ t_1042)) (Nat.le_of_ble_eq_true rfl) (Nat.le_of_ble_eq_true rfl) (Nat.le_of_ble_eq_true rfl) (Nat.le_of_ble_eq_true rfl) dX0_closeParts_208 ?_
                                          refine lv_topi (fun y_216 ey_216 => ?_)
                                          have ty_216 : y_216.toInt = max r_199.toInt r_212.toInt := by rw [ey_216]; exact mmax_ok _ _
                                          have b_217 : bd (-2147483648) 2147483647 y_216 := max_rg ty_216 (bdT r_199) (bdT r_212) (by decide)
                                          refine lv_iadd hx hb dX0_closeParts_211 ?_
                                          refine lv_topi (fun y_218 ey_218 => ?_)
                                          refine lv_istore (lv' := [(6, .int y_218), (2, .int 1), (5, .int 0), (4, .int x_57), (3, .int v4_3), (0, .ref a0_), (1, .int x1_)]) hx hb dX0_closeParts_212 hl (by decide) rfl (fun ls hl => ?_)
                                          refine lv_aload_n hx hb dX0_closeParts_214 rfl (lv_at hl 5 rfl) ?_
                                          refine lv_iload hx hb dX0_closeParts_215 (lv_at hl 0 rfl) ?_
                                          refine g_callv (va_runV (As := [.int y_218]) (rest := []) ⟨hx, hb, hml, hown, hts⟩ (r_X0_addWhole l dC dI L kd tys fr_212 H.size g.2.2.2.1 a0_ ma0_ ka0_ y_218) (cwV 1 hts (gV_ t_1211 t_1213 t_17 t_190 t_1214) rfl rfl rfl (by decide +kernel) ⟨(Nat.le_of_ble_eq_true rfl), (Nat.le_of_ble_eq_true rfl)⟩) (pre3V g hK ma0_ ka0_ (by decide) (q := (RX0, TX0, 14)) rfl) rfl rfl hl.1 rfl (lv_room (Nat.le_of_ble_eq_true rfl)) dX0_closeParts_217 ⟨(Nat.le_of_ble_eq_true rfl), (Nat.le_of_ble_eq_true rfl)⟩) g hK (by decide) (by decide) (fx' := [(0, 5, a0_, .ref a_209), (7, 6, q1_, .int x_206), (0, 8, a0_, .int y_55), (8, 6, q0_, .int 1201), (8, 8, q0_, .int x_40), (0, 4, a0_, .ref a_37), (0, 3, a0_, .ref g76_0_3_a0_), (0, 0, a0_, .ref q0_), (0, 2, a0_, .ref q1_)]) rfl (fun fr_219 H locs hp hMr_219 g => ?_)
                                          obtain ⟨x_220, h_221, hF_222⟩ := hp
                                          have g := g.more hF_222
                                          refine lv_iload hx hb dX0_closeParts_220 (lv_at hl 0 rfl) ?_
                                          refine lv_bipush (v := 12) hx hb dX0_closeParts_222 (by decide) ?_
                                          refine lv_icmp_le (tgt := 245) hx hb dX0_closeParts_224 (by decide) (fun c_223 => ?_) (fun c_223 => ?_)
                                          · have fc_223 := le_f c_223
                                            have b_224 : bd (-2147483648) 12 y_218 := leL fc_223 (bdT y_218) kb_12 (by decide)
                                            obtain ⟨y_225, ey_225⟩ : ∃ z : Int32, z = v4_3 + 1 := ⟨_, rfl⟩
                                            refine lv_iinc (v := y_225) (lv' := [(3, .int y_225), (6, .int y_218), (2, .int 1), (5, .int 0), (4, .int x_57), (0, .ref a0_), (1, .int x1_)]) hx hb dX0_closeParts_245 hl (k := 4) rfl (by rw [ey_225]; rfl) (by decide) rfl (fun ls hl => ?_)
                                            have ty_225 := add_bd ey_225 b_48 kb_1 (by decide)
                                            have b_226 : bd 2 300 y_225 := add_rg ty_225 b_48 kb_1 (by decide)
                                            refine lv_goto (tgt := 4) hx hb dX0_closeParts_248 (by decide) ?_
                                            have hl9 := lv_sub hl [0, 1, 2, 3, 4, 5, 6] (by rfl : lv_pick [(3, .int y_225), (6, .int y_218), (2, .int 1), (5, .int 0), (4, .int x_57), (0, .ref a0_), (1, .int x1_)] [0, 1, 2, 3, 4, 5, 6] = [(3, .int y_225), (6, .int y_218), (2, .int 1), (5, .int 0), (4, .int x_57), (0, .ref a0_), (1, .int x1_)])
                                            have g9 := g.sub (fx' := [(8, 6, q0_, .int 1201), (8, 8, q0_, .int x_40), (0, 4, a0_, .ref a_37), (0, 12, a0_, .int 0), (0, 10, a0_, .int x_220), (7, 6, q1_, .int x_206), (0, 8, a0_, .int y_55), (0, 3, a0_, .ref g76_0_3_a0_), (0, 0, a0_, .ref q0_), (0, 2, a0_, .ref q1_)]) [5, 6, 7, 0, 1, 3, 4, 8, 9, 10] rfl
                                            exact ih4  y_225 y_218 1 0 x_57 x_220 x_206 y_55 (bd_sub b_226 (by decide)) (bd_sub kb_1 (by decide)) (bd_sub kb_0 (by decide)) h_221 h_207 (bd_sub b_56 (by decide)) (by have h9_0 := b_204; unfold bd at h9_0; have h9_1 := b_224; unfold bd at h9_1; have h9_2 := b_226; unfold bd at h9_2; have h9_3 := b_56; unfold bd at h9_3; have h9_4 := bdT v4_4; unfold bd at h9_4; have h9_5 := bdT v4_6; unfold bd at h9_5; have h9_6 := bv4_2; unfold bd at h9_6; have h9_7 := bv4_3; unfold bd at h9_7; have h9_8 := bv4_5; unfold bd at h9_8; have h9_9 := bw4_0_10_a0_; unfold bd at h9_9; have h9_10 := bw4_0_8_a0_; unfold bd at h9_10; have h9_11 := bw4_7_6_q1_; unfold bd at h9_11; have h9_12 := h_207; unfold bd at h9_12; have h9_13 := h_221; unfold bd at h9_13; have h9_14 := kb_0; unfold bd at h9_14; have h9_15 := kb_1; unfold bd at h9_15; have h9_16 := kb_12; unfold bd at h9_16; have h9_17 := kb_205; unfold bd at h9_17; have h9_18 := kb_300; unfold bd at h9_18; have h9_19 := kb_6; unfold bd at h9_19; have h9_20 := kb_7; unfold bd at h9_20; omega) _ _ _ _ g9  hl9
                                          · have fc_223 := nle_f c_223
                                            have b_227 : bd 13 2147483647 y_218 := ltR fc_223 kb_12 (bdT y_218) (by decide)
                                            refine lv_aload_n hx hb dX0_closeParts_227 rfl (lv_at hl 5 rfl) ?_
                                            refine g_getk (C := RX0) (T := TX0) (N := 14) hx hb hts (mc_ inX0) hown hK g rfl 0 (by decide) rfl (hts _ (List.mem_cons_of_mem _ t_373)) (fun _ h9 => h9) 9 rfl dX0_closeParts_228 ?_
                                            refine lv_bipush (v := 7) hx hb dX0_closeParts_231 (by decide) ?_
                                            refine lv_aload_n hx hb dX0_closeParts_233 rfl (lv_at hl 5 rfl) ?_
                                            refine g_getk (C := RX0) (T := TX0) (N := 14) hx hb hts (mc_ inX0) hown hK g rfl 4 (by decide) rfl (hts _ (List.mem_cons_of_mem _ t_377)) (fun _ h9 => h9) 7 rfl dX0_closeParts_234 ?_
                                            refine lv_aload_n hx hb dX0_closeParts_237 rfl (lv_at hl 5 rfl) ?_
                                            refine g_getk (C := RX0) (T := TX0) (N := 14) hx hb hts (mc_ inX0) hown hK g rfl 8 (by decide) rfl (hts _ (List.mem_cons_of_mem _ t_381)) (fun _ h9 => h9) 4 rfl dX0_closeParts_238 ?_
                                            refine g_iald hx hb hK g ma_37 ka_37 (by decide) rfl (in_bd b_56 (by decide)) dX0_closeParts_241 (fun x_228 bx_228 cx_228 => ?_)
                                            refine g_callv (va_runV (As := [.int 7, .int x_228]) (rest := []) ⟨hx, hb, hml, hown, hts⟩ (r_X8_fail_2 l dC dI L kd tys fr_219 H.size g.2.2.2.1 q0_ mq0_ kq0_ 7 (bd_sub kb_7 (by decide)) x_228 x_40 h_41 (g.fcts [6] rfl)) (cwV 2 hts (gV_ t_1215 t_1107 t_1108 t_184 t_1109) rfl rfl rfl (by decide +kernel) ⟨(Nat.le_of_ble_eq_true rfl), (Nat.le_of_ble_eq_true rfl)⟩) (pre3V g hK mq0_ kq0_ (by decide) (q := (RX8, TX8, 10)) rfl) rfl rfl hl.1 rfl (lv_room (Nat.le_of_ble_eq_true rfl)) dX0_closeParts_242 ⟨(Nat.le_of_ble_eq_true rfl), (Nat.le_of_ble_eq_true rfl)⟩) g hK (by decide) (by decide) (fx' := [(0, 12, a0_, .int 0), (0, 10, a0_, .int x_220), (0, 5, a0_, .ref a_209), (7, 6, q1_, .int x_206), (0, 8, a0_, .int y_55), (8, 8, q0_, .int x_40), (0, 4, a0_, .ref a_37), (0, 3, a0_, .ref g76_0_3_a0_), (0, 0, a0_, .ref q0_), (0, 2, a0_, .ref q1_)]) rfl (fun fr_229 H locs hp hMr_229 g => ?_)
                                            have hF_230 := hp
                                            have g := g.more hF_230
                                            obtain ⟨y_231, ey_231⟩ : ∃ z : Int32, z = v4_3 + 1 := ⟨_, rfl⟩
                                            refine lv_iinc (v := y_231) (lv' := [(3, .int y_231), (6, .int y_218), (2, .int 1), (5, .int 0), (4, .int x_57), (0, .ref a0_), (1, .int x1_)]) hx hb dX0_closeParts_245 hl (k := 4) rfl (by rw [ey_231]; rfl) (by decide) rfl (fun ls hl => ?_)
                                            have ty_231 := add_bd ey_231 b_48 kb_1 (by decide)
                                            have b_232 : bd 2 300 y_231 := add_rg ty_231 b_48 kb_1 (by decide)
                                            refine lv_goto (tgt := 4) hx hb dX0_closeParts_248 (by decide) ?_
                                            have hl9 := lv_sub hl [0, 1, 2, 3, 4, 5, 6] (by rfl : lv_pick [(3, .int y_231), (6, .int y_218), (2, .int 1), (5, .int 0), (4, .int x_57), (0, .ref a0_), (1, .int x1_)] [0, 1, 2, 3, 4, 5, 6] = [(3, .int y_231), (6, .int y_218), (2, .int 1), (5, .int 0), (4, .int x_57), (0, .ref a0_), (1, .int x1_)])
                                            have g9 := g.sub (fx' := [(8, 6, q0_, .int 1201), (8, 8, q0_, .int x_40), (0, 4, a0_, .ref a_37), (0, 12, a0_, .int 0), (0, 10, a0_, .int x_220), (7, 6, q1_, .int x_206), (0, 8, a0_, .int y_55), (0, 3, a0_, .ref g76_0_3_a0_), (0, 0, a0_, .ref q0_), (0, 2, a0_, .ref q1_)]) [0, 6, 7, 1, 2, 4, 5, 8, 9, 10] rfl
                                            exact ih4  y_231 y_218 1 0 x_57 x_220 x_206 y_55 (bd_sub b_232 (by decide)) (bd_sub kb_1 (by decide)) (bd_sub kb_0 (by decide)) h_221 h_207 (bd_sub b_56 (by decide)) (by have h9_0 := b_204; unfold bd at h9_0; have h9_1 := b_227; unfold bd at h9_1; have h9_2 := b_232; unfold bd at h9_2; have h9_3 := b_56; unfold bd at h9_3; have h9_4 := bdT v4_4; unfold bd at h9_4; have h9_5 := bdT v4_6; unfold bd at h9_5; have h9_6 := bv4_2; unfold bd at h9_6; have h9_7 := bv4_3; unfold bd at h9_7; have h9_8 := bv4_5; unfold bd at h9_8; have h9_9 := bw4_0_10_a0_; unfold bd at h9_9; have h9_10 := bw4_0_8_a0_; unfold bd at h9_10; have h9_11 := bw4_7_6_q1_; unfold bd at h9_11; have h9_12 := h_207; unfold bd at h9_12; have h9_13 := h_221; unfold bd at h9_13; have h9_14 := kb_0; unfold bd at h9_14; have h9_15 := kb_1; unfold bd at h9_15; have h9_16 := kb_12; unfold bd at h9_16; have h9_17 := kb_205; unfold bd at h9_17; have h9_18 := kb_300; unfold bd at h9_18; have h9_19 := kb_6; unfold bd at h9_19; have h9_20 := kb_7; unfold bd at h9_20; omega) _ _ _ _ g9  hl9
                                        · have fc_203 := neq_f c_203
                                          refine lv_iload hx hb dX0_closeParts_144 (lv_at hl 3 rfl) ?_
                                          refine lv_sipush (v := 206) hx hb dX0_closeParts_146 (by decide) ?_
                                          have kb_206 : bd 206 206 (206 : Int32) := ⟨by decide, by decide⟩
                                          refine lv_icmp_ne (tgt := 181) hx hb dX0_closeParts_149 (by decide) (fun c_233 => ?_) (fun c_233 => ?_)
                                          · have fc_233 := neq_f c_233
                                            have b_234 : bd 37 205 x_57 := neX fc_233 b_191 kb_206 (by decide)
                                            refine lv_aload_n hx hb dX0_closeParts_181 rfl (lv_at hl 5 rfl) ?_
                                            refine g_getk (C := RX0) (T := TX0) (N := 14) hx hb hts (mc_ inX0) hown hK g rfl 2 (by decide) rfl (hts _ (List.mem_cons_of_mem _ t_375)) (fun _ h9 => h9) 9 rfl dX0_closeParts_182 ?_
                                            refine lv_iload hx hb dX0_closeParts_185 (lv_at hl 3 rfl) ?_
                                            refine lv_iconst (v := 0) hx hb dX0_closeParts_187 (by decide) ?_
                                            refine g_callv (va_runV (As := [.int x_57, .int 0]) (rest := []) ⟨hx, hb, hml, hown, hts⟩ (r_X7_emit l dC dI L kd tys fr_199 H.size g.2.2.2.1 q1_ mq1_ kq1_ x_57 0) (cwV 2 hts (gV_ t_1203 t_1204 t_1205 t_191 t_1206) rfl rfl rfl (by decide +kernel) ⟨(Nat.le_of_ble_eq_true rfl), (Nat.le_of_ble_eq_true rfl)⟩) (pre3V g hK mq1_ kq1_ (by decide) (q := (RX7, TX7, 19)) rfl) rfl rfl hl.1 rfl (lv_room (Nat.le_of_ble_eq_true rfl)) dX0_closeParts_188 ⟨(Nat.le_of_ble_eq_true rfl), (Nat.le_of_ble_eq_true rfl)⟩) g hK (by decide) (by decide) (fx' := [(0, 10, a0_, .int x_200), (0, 8, a0_, .int y_55), (8, 6, q0_, .int 1201), (8, 8, q0_, .int x_40), (0, 4, a0_, .ref a_37), (0, 12, a0_, .int 0), (0, 3, a0_, .ref g76_0_3_a0_), (0, 0, a0_, .ref q0_), (0, 2, a0_, .ref q1_)]) rfl (fun fr_235 H locs hp hMr_235 g => ?_)
                                            obtain ⟨x_236, h_237, hF_238⟩ := hp
                                            have g := g.more hF_238
                                            refine lv_iconst (v := 1) hx hb dX0_closeParts_191 (by decide) ?_
                                            refine lv_iload hx hb dX0_closeParts_192 (lv_at hl 2 rfl) ?_
                                            refine lv_if_eq (tgt := 202) hx hb dX0_closeParts_194 (by decide) (fun c_ => ?_) (fun c_ => absurd (by decide) c_)
                                            refine lv_iload hx hb dX0_closeParts_202 (lv_at hl 0 rfl) ?_
                                            refine lv_aload_n hx hb dX0_closeParts_204 rfl (lv_at hl 5 rfl) ?_
                                            refine g_calli (va_runV (As := []) (rest := [.int r_199, .int 1]) ⟨hx, hb, hml, hown, hts⟩ (r_X0_takeHeight l dC dI L kd tys fr_235 H.size g.2.2.2.1 a0_ ma0_ ka0_) (cwV 0 hts (gV_ t_1199 t_1201 t_16 t_190 t_1202) rfl rfl rfl (by decide +kernel) ⟨(Nat.le_of_ble_eq_true rfl), (Nat.le_of_ble_eq_true rfl)⟩) (pre3V g hK ma0_ ka0_ (by decide) (q := (RX0, TX0, 14)) rfl) rfl rfl hl.1 rfl (lv_room (Nat.le_of_ble_eq_true rfl)) dX0_closeParts_205 ⟨(Nat.le_of_ble_eq_true rfl), (Nat.le_of_ble_eq_true rfl)⟩) g hK (by decide) (by decide) (fx' := [(7, 6, q1_, .int x_236), (0, 8, a0_, .int y_55), (8, 6, q0_, .int 1201), (8, 8, q0_, .int x_40), (0, 4, a0_, .ref a_37), (0, 12, a0_, .int 0), (0, 3, a0_, .ref g76_0_3_a0_), (0, 0, a0_, .ref q0_), (0, 2, a0_, .ref q1_)]) rfl (fun r_239 fr_239 H locs hp hMr_239 g => ?_)
                                            obtain ⟨x_240, h_241, hF_242⟩ := hp
                                            have g := g.more hF_242
                                            refine va_mmax hx hb (hml.trans hl.1.symm) hown (hts _ (List.mem_cons_of_mem _ t_1194)) (hts _ (List.mem_cons_of_mem _ t_1041)) (hts _ (List.mem_cons_of_mem _ t_204)) (hts _ (List.mem_cons_of_mem _ t_1042)) (Nat.le_of_ble_eq_true rfl) (Nat.le_of_ble_eq_true rfl) (Nat.le_of_ble_eq_true rfl) (Nat.le_of_ble_eq_true rfl) dX0_closeParts_208 ?_
                                            refine lv_topi (fun y_243 ey_243 => ?_)
                                            have ty_243 : y_243.toInt = max r_199.toInt r_239.toInt := by rw [ey_243]; exact mmax_ok _ _
                                            have b_244 : bd (-2147483648) 2147483647 y_243 := max_rg ty_243 (bdT r_199) (bdT r_239) (by decide)
                                            refine lv_iadd hx hb dX0_closeParts_211 ?_
                                            refine lv_topi (fun y_245 ey_245 => ?_)
                                            refine lv_istore (lv' := [(6, .int y_245), (2, .int 1), (5, .int 0), (4, .int x_57), (3, .int v4_3), (0, .ref a0_), (1, .int x1_)]) hx hb dX0_closeParts_212 hl (by decide) rfl (fun ls hl => ?_)
                                            refine lv_aload_n hx hb dX0_closeParts_214 rfl (lv_at hl 5 rfl) ?_
                                            refine lv_iload hx hb dX0_closeParts_215 (lv_at hl 0 rfl) ?_
                                            refine g_callv (va_runV (As := [.int y_245]) (rest := []) ⟨hx, hb, hml, hown, hts⟩ (r_X0_addWhole l dC dI L kd tys fr_239 H.size g.2.2.2.1 a0_ ma0_ ka0_ y_245) (cwV 1 hts (gV_ t_1211 t_1213 t_17 t_190 t_1214) rfl rfl rfl (by decide +kernel) ⟨(Nat.le_of_ble_eq_true rfl), (Nat.le_of_ble_eq_true rfl)⟩) (pre3V g hK ma0_ ka0_ (by decide) (q := (RX0, TX0, 14)) rfl) rfl rfl hl.1 rfl (lv_room (Nat.le_of_ble_eq_true rfl)) dX0_closeParts_217 ⟨(Nat.le_of_ble_eq_true rfl), (Nat.le_of_ble_eq_true rfl)⟩) g hK (by decide) (by decide) (fx' := [(7, 6, q1_, .int x_236), (0, 8, a0_, .int y_55), (8, 6, q0_, .int 1201), (8, 8, q0_, .int x_40), (0, 4, a0_, .ref a_37), (0, 3, a0_, .ref g76_0_3_a0_), (0, 0, a0_, .ref q0_), (0, 2, a0_, .ref q1_)]) rfl (fun fr_246 H locs hp hMr_246 g => ?_)
                                            obtain ⟨x_247, h_248, hF_249⟩ := hp
                                            have g := g.more hF_249
                                            refine lv_iload hx hb dX0_closeParts_220 (lv_at hl 0 rfl) ?_
                                            refine lv_bipush (v := 12) hx hb dX0_closeParts_222 (by decide) ?_
                                            refine lv_icmp_le (tgt := 245) hx hb dX0_closeParts_224 (by decide) (fun c_250 => ?_) (fun c_250 => ?_)
                                            · have fc_250 := le_f c_250
                                              have b_251 : bd (-2147483648) 12 y_245 := leL fc_250 (bdT y_245) kb_12 (by decide)
                                              obtain ⟨y_252, ey_252⟩ : ∃ z : Int32, z = v4_3 + 1 := ⟨_, rfl⟩
                                              refine lv_iinc (v := y_252) (lv' := [(3, .int y_252), (6, .int y_245), (2, .int 1), (5, .int 0), (4, .int x_57), (0, .ref a0_), (1, .int x1_)]) hx hb dX0_closeParts_245 hl (k := 4) rfl (by rw [ey_252]; rfl) (by decide) rfl (fun ls hl => ?_)
                                              have ty_252 := add_bd ey_252 b_48 kb_1 (by decide)
                                              have b_253 : bd 2 300 y_252 := add_rg ty_252 b_48 kb_1 (by decide)
                                              refine lv_goto (tgt := 4) hx hb dX0_closeParts_248 (by decide) ?_
                                              have hl9 := lv_sub hl [0, 1, 2, 3, 4, 5, 6] (by rfl : lv_pick [(3, .int y_252), (6, .int y_245), (2, .int 1), (5, .int 0), (4, .int x_57), (0, .ref a0_), (1, .int x1_)] [0, 1, 2, 3, 4, 5, 6] = [(3, .int y_252), (6, .int y_245), (2, .int 1), (5, .int 0), (4, .int x_57), (0, .ref a0_), (1, .int x1_)])
                                              have g9 := g.sub (fx' := [(8, 6, q0_, .int 1201), (8, 8, q0_, .int x_40), (0, 4, a0_, .ref a_37), (0, 12, a0_, .int 0), (0, 10, a0_, .int x_247), (7, 6, q1_, .int x_236), (0, 8, a0_, .int y_55), (0, 3, a0_, .ref g76_0_3_a0_), (0, 0, a0_, .ref q0_), (0, 2, a0_, .ref q1_)]) [4, 5, 6, 0, 1, 2, 3, 7, 8, 9] rfl
                                              exact ih4  y_252 y_245 1 0 x_57 x_247 x_236 y_55 (bd_sub b_253 (by decide)) (bd_sub kb_1 (by decide)) (bd_sub kb_0 (by decide)) h_248 h_237 (bd_sub b_56 (by decide)) (by have h9_0 := b_234; unfold bd at h9_0; have h9_1 := b_251; unfold bd at h9_1; have h9_2 := b_253; unfold bd at h9_2; have h9_3 := b_56; unfold bd at h9_3; have h9_4 := bdT v4_4; unfold bd at h9_4; have h9_5 := bdT v4_6; unfold bd at h9_5; have h9_6 := bv4_2; unfold bd at h9_6; have h9_7 := bv4_3; unfold bd at h9_7; have h9_8 := bv4_5; unfold bd at h9_8; have h9_9 := bw4_0_10_a0_; unfold bd at h9_9; have h9_10 := bw4_0_8_a0_; unfold bd at h9_10; have h9_11 := bw4_7_6_q1_; unfold bd at h9_11; have h9_12 := h_237; unfold bd at h9_12; have h9_13 := h_248; unfold bd at h9_13; have h9_14 := kb_0; unfold bd at h9_14; have h9_15 := kb_1; unfold bd at h9_15; have h9_16 := kb_12; unfold bd at h9_16; have h9_17 := kb_205; unfold bd at h9_17; have h9_18 := kb_206; unfold bd at h9_18; have h9_19 := kb_300; unfold bd at h9_19; have h9_20 := kb_6; unfold bd at h9_20; have h9_21 := kb_7; unfold bd at h9_21; omega) _ _ _ _ g9  hl9
                                            · have fc_250 := nle_f c_250
                                              have b_254 : bd 13 2147483647 y_245 := ltR fc_250 kb_12 (bdT y_245) (by decide)
                                              refine lv_aload_n hx hb dX0_closeParts_227 rfl (lv_at hl 5 rfl) ?_
                                              refine g_getk (C := RX0) (T := TX0) (N := 14) hx hb hts (mc_ inX0) hown hK g rfl 0 (by decide) rfl (hts _ (List.mem_cons_of_mem _ t_373)) (fun _ h9 => h9) 8 rfl dX0_closeParts_228 ?_
                                              refine lv_bipush (v := 7) hx hb dX0_closeParts_231 (by decide) ?_
                                              refine lv_aload_n hx hb dX0_closeParts_233 rfl (lv_at hl 5 rfl) ?_
                                              refine g_getk (C := RX0) (T := TX0) (N := 14) hx hb hts (mc_ inX0) hown hK g rfl 4 (by decide) rfl (hts _ (List.mem_cons_of_mem _ t_377)) (fun _ h9 => h9) 6 rfl dX0_closeParts_234 ?_
                                              refine lv_aload_n hx hb dX0_closeParts_237 rfl (lv_at hl 5 rfl) ?_
                                              refine g_getk (C := RX0) (T := TX0) (N := 14) hx hb hts (mc_ inX0) hown hK g rfl 8 (by decide) rfl (hts _ (List.mem_cons_of_mem _ t_381)) (fun _ h9 => h9) 3 rfl dX0_closeParts_238 ?_
                                              refine g_iald hx hb hK g ma_37 ka_37 (by decide) rfl (in_bd b_56 (by decide)) dX0_closeParts_241 (fun x_255 bx_255 cx_255 => ?_)
                                              refine g_callv (va_runV (As := [.int 7, .int x_255]) (rest := []) ⟨hx, hb, hml, hown, hts⟩ (r_X8_fail_2 l dC dI L kd tys fr_246 H.size g.2.2.2.1 q0_ mq0_ kq0_ 7 (bd_sub kb_7 (by decide)) x_255 x_40 h_41 (g.fcts [5] rfl)) (cwV 2 hts (gV_ t_1215 t_1107 t_1108 t_184 t_1109) rfl rfl rfl (by decide +kernel) ⟨(Nat.le_of_ble_eq_true rfl), (Nat.le_of_ble_eq_true rfl)⟩) (pre3V g hK mq0_ kq0_ (by decide) (q := (RX8, TX8, 10)) rfl) rfl rfl hl.1 rfl (lv_room (Nat.le_of_ble_eq_true rfl)) dX0_closeParts_242 ⟨(Nat.le_of_ble_eq_true rfl), (Nat.le_of_ble_eq_true rfl)⟩) g hK (by decide) (by decide) (fx' := [(0, 12, a0_, .int 0), (0, 10, a0_, .int x_247), (7, 6, q1_, .int x_236), (0, 8, a0_, .int y_55), (8, 8, q0_, .int x_40), (0, 4, a0_, .ref a_37), (0, 3, a0_, .ref g76_0_3_a0_), (0, 0, a0_, .ref q0_), (0, 2, a0_, .ref q1_)]) rfl (fun fr_256 H locs hp hMr_256 g => ?_)
                                              have hF_257 := hp
                                              have g := g.more hF_257
                                              obtain ⟨y_258, ey_258⟩ : ∃ z : Int32, z = v4_3 + 1 := ⟨_, rfl⟩
                                              refine lv_iinc (v := y_258) (lv' := [(3, .int y_258), (6, .int y_245), (2, .int 1), (5, .int 0), (4, .int x_57), (0, .ref a0_), (1, .int x1_)]) hx hb dX0_closeParts_245 hl (k := 4) rfl (by rw [ey_258]; rfl) (by decide) rfl (fun ls hl => ?_)
                                              have ty_258 := add_bd ey_258 b_48 kb_1 (by decide)
                                              have b_259 : bd 2 300 y_258 := add_rg ty_258 b_48 kb_1 (by decide)
                                              refine lv_goto (tgt := 4) hx hb dX0_closeParts_248 (by decide) ?_
                                              have hl9 := lv_sub hl [0, 1, 2, 3, 4, 5, 6] (by rfl : lv_pick [(3, .int y_258), (6, .int y_245), (2, .int 1), (5, .int 0), (4, .int x_57), (0, .ref a0_), (1, .int x1_)] [0, 1, 2, 3, 4, 5, 6] = [(3, .int y_258), (6, .int y_245), (2, .int 1), (5, .int 0), (4, .int x_57), (0, .ref a0_), (1, .int x1_)])
                                              have g9 := g.sub (fx' := [(8, 6, q0_, .int 1201), (8, 8, q0_, .int x_40), (0, 4, a0_, .ref a_37), (0, 12, a0_, .int 0), (0, 10, a0_, .int x_247), (7, 6, q1_, .int x_236), (0, 8, a0_, .int y_55), (0, 3, a0_, .ref g76_0_3_a0_), (0, 0, a0_, .ref q0_), (0, 2, a0_, .ref q1_)]) [0, 5, 6, 1, 2, 3, 4, 7, 8, 9] rfl
                                              exact ih4  y_258 y_245 1 0 x_57 x_247 x_236 y_55 (bd_sub b_259 (by decide)) (bd_sub kb_1 (by decide)) (bd_sub kb_0 (by decide)) h_248 h_237 (bd_sub b_56 (by decide)) (by have h9_0 := b_234; unfold bd at h9_0; have h9_1 := b_254; unfold bd at h9_1; have h9_2 := b_259; unfold bd at h9_2; have h9_3 := b_56; unfold bd at h9_3; have h9_4 := bdT v4_4; unfold bd at h9_4; have h9_5 := bdT v4_6; unfold bd at h9_5; have h9_6 := bv4_2; unfold bd at h9_6; have h9_7 := bv4_3; unfold bd at h9_7; have h9_8 := bv4_5; unfold bd at h9_8; have h9_9 := bw4_0_10_a0_; unfold bd at h9_9; have h9_10 := bw4_0_8_a0_; unfold bd at h9_10; have h9_11 := bw4_7_6_q1_; unfold bd at h9_11; have h9_12 := h_237; unfold bd at h9_12; have h9_13 := h_248; unfold bd at h9_13; have h9_14 := kb_0; unfold bd at h9_14; have h9_15 := kb_1; unfold bd at h9_15; have h9_16 := kb_12; unfold bd at h9_16; have h9_17 := kb_205; unfold bd at h9_17; have h9_18 := kb_206; unfold bd at h9_18; have h9_19 := kb_300; unfold bd at h9_19; have h9_20 := kb_6; unfold bd at h9_20; have h9_21 := kb_7; unfold bd at h9_21; omega) _ _ _ _ g9  hl9
                                          · have fc_233 := eq_f c_233
                                            have b_260 : bd 206 206 x_57 := eqX fc_233 b_191 kb_206 (by decide)
                                            refine lv_aload_n hx hb dX0_closeParts_152 rfl (lv_at hl 5 rfl) ?_
                                            refine g_getk (C := RX0) (T := TX0) (N := 14) hx hb hts (mc_ inX0) hown hK g rfl 2 (by decide) rfl (hts _ (List.mem_cons_of_mem _ t_375)) (fun _ h9 => h9) 9 rfl dX0_closeParts_153 ?_
                                            refine lv_bipush (v := 8) hx hb dX0_closeParts_156 (by decide) ?_
                                            refine lv_iconst (v := 0) hx hb dX0_closeParts_158 (by decide) ?_
                                            refine g_callv (va_runV (As := [.int 8, .int 0]) (rest := []) ⟨hx, hb, hml, hown, hts⟩ (r_X7_emit l dC dI L kd tys fr_199 H.size g.2.2.2.1 q1_ mq1_ kq1_ 8 0) (cwV 2 hts (gV_ t_1203 t_1204 t_1205 t_191 t_1206) rfl rfl rfl (by decide +kernel) ⟨(Nat.le_of_ble_eq_true rfl), (Nat.le_of_ble_eq_true rfl)⟩) (pre3V g hK mq1_ kq1_ (by decide) (q := (RX7, TX7, 19)) rfl) rfl rfl hl.1 rfl (lv_room (Nat.le_of_ble_eq_true rfl)) dX0_closeParts_159 ⟨(Nat.le_of_ble_eq_true rfl), (Nat.le_of_ble_eq_true rfl)⟩) g hK (by decide) (by decide) (fx' := [(0, 10, a0_, .int x_200), (0, 8, a0_, .int y_55), (8, 6, q0_, .int 1201), (8, 8, q0_, .int x_40), (0, 4, a0_, .ref a_37), (0, 12, a0_, .int 0), (0, 3, a0_, .ref g76_0_3_a0_), (0, 0, a0_, .ref q0_), (0, 2, a0_, .ref q1_)]) rfl (fun fr_261 H locs hp hMr_261 g => ?_)
                                            obtain ⟨x_262, h_263, hF_264⟩ := hp
                                            have g := g.more hF_264
                                            refine lv_aload_n hx hb dX0_closeParts_162 rfl (lv_at hl 5 rfl) ?_
                                            refine g_getk (C := RX0) (T := TX0) (N := 14) hx hb hts (mc_ inX0) hown hK g rfl 2 (by decide) rfl (hts _ (List.mem_cons_of_mem _ t_375)) (fun _ h9 => h9) 9 rfl dX0_closeParts_163 ?_
                                            refine lv_aload_n hx hb dX0_closeParts_166 rfl (lv_at hl 5 rfl) ?_
                                            refine g_getr (K := 112) (C := RX0) (T := TX0) (N := 14) hx hb hts (mc_ inX0) hown hK g ma0_ ka0_ (by decide) rfl 5 (by decide) rfl (hts _ (List.mem_cons_of_mem _ t_378)) (fun _ h9 => h9) rfl dX0_closeParts_167 (fun a_265 ma_265 ka_265 g => ?_)
                                            refine lv_aload_n hx hb dX0_closeParts_170 rfl (lv_at hl 5 rfl) ?_
                                            refine g_getk (C := RX0) (T := TX0) (N := 14) hx hb hts (mc_ inX0) hown hK g rfl 8 (by decide) rfl (hts _ (List.mem_cons_of_mem _ t_381)) (fun _ h9 => h9) 3 rfl dX0_closeParts_171 ?_
                                            refine g_iald hx hb hK g ma_265 ka_265 (by decide) rfl (in_bd b_56 (by decide)) dX0_closeParts_174 (fun x_266 bx_266 cx_266 => ?_)
                                            refine g_callv (va_runV (As := [.int x_266]) (rest := []) ⟨hx, hb, hml, hown, hts⟩ (r_X7_leadHere l dC dI L kd tys fr_261 H.size g.2.2.2.1 q1_ mq1_ kq1_ x_266) (cwV 1 hts (gV_ t_1207 t_1208 t_1209 t_191 t_1210) rfl rfl rfl (by decide +kernel) ⟨(Nat.le_of_ble_eq_true rfl), (Nat.le_of_ble_eq_true rfl)⟩) (pre3V g hK mq1_ kq1_ (by decide) (q := (RX7, TX7, 19)) rfl) rfl rfl hl.1 rfl (lv_room (Nat.le_of_ble_eq_true rfl)) dX0_closeParts_175 ⟨(Nat.le_of_ble_eq_true rfl), (Nat.le_of_ble_eq_true rfl)⟩) g hK (by decide) (by decide) (fx' := [(0, 5, a0_, .ref a_265), (7, 6, q1_, .int x_262), (0, 10, a0_, .int x_200), (0, 8, a0_, .int y_55), (8, 6, q0_, .int 1201), (8, 8, q0_, .int x_40), (0, 4, a0_, .ref a_37), (0, 12, a0_, .int 0), (0, 3, a0_, .ref g76_0_3_a0_), (0, 0, a0_, .ref q0_), (0, 2, a0_, .ref q1_)]) rfl (fun fr_267 H locs hp hMr_267 g => ?_)
                                            refine lv_goto (tgt := 191) hx hb dX0_closeParts_178 (by decide) ?_
                                            refine lv_iconst (v := 1) hx hb dX0_closeParts_191 (by decide) ?_
                                            refine lv_iload hx hb dX0_closeParts_192 (lv_at hl 2 rfl) ?_
                                            refine lv_if_eq (tgt := 202) hx hb dX0_closeParts_194 (by decide) (fun c_ => ?_) (fun c_ => absurd (by decide) c_)
                                            refine lv_iload hx hb dX0_closeParts_202 (lv_at hl 0 rfl) ?_
                                            refine lv_aload_n hx hb dX0_closeParts_204 rfl (lv_at hl 5 rfl) ?_
                                            refine g_calli (va_runV (As := []) (rest := [.int r_199, .int 1]) ⟨hx, hb, hml, hown, hts⟩ (r_X0_takeHeight l dC dI L kd tys fr_267 H.size g.2.2.2.1 a0_ ma0_ ka0_) (cwV 0 hts (gV_ t_1199 t_1201 t_16 t_190 t_1202) rfl rfl rfl (by decide +kernel) ⟨(Nat.le_of_ble_eq_true rfl), (Nat.le_of_ble_eq_true rfl)⟩) (pre3V g hK ma0_ ka0_ (by decide) (q := (RX0, TX0, 14)) rfl) rfl rfl hl.1 rfl (lv_room (Nat.le_of_ble_eq_true rfl)) dX0_closeParts_205 ⟨(Nat.le_of_ble_eq_true rfl), (Nat.le_of_ble_eq_true rfl)⟩) g hK (by decide) (by decide) (fx' := [(0, 5, a0_, .ref a_265), (7, 6, q1_, .int x_262), (0, 8, a0_, .int y_55), (8, 6, q0_, .int 1201), (8, 8, q0_, .int x_40), (0, 4, a0_, .ref a_37), (0, 12, a0_, .int 0), (0, 3, a0_, .ref g76_0_3_a0_), (0, 0, a0_, .ref q0_), (0, 2, a0_, .ref q1_)]) rfl (fun r_268 fr_268 H locs hp hMr_268 g => ?_)
                                            obtain ⟨x_269, h_270, hF_271⟩ := hp
                                            have g := g.more hF_271
                                            refine va_mmax hx hb (hml.trans hl.1.symm) hown (hts _ (List.mem_cons_of_mem _ t_1194)) (hts _ (List.mem_cons_of_mem _ t_1041)) (hts _ (List.mem_cons_of_mem _ t_204)) (hts _ (List.mem_cons_of_mem _ t_1042)) (Nat.le_of_ble_eq_true rfl) (Nat.le_of_ble_eq_true rfl) (Nat.le_of_ble_eq_true rfl) (Nat.le_of_ble_eq_true rfl) dX0_closeParts_208 ?_
                                            refine lv_topi (fun y_272 ey_272 => ?_)
                                            have ty_272 : y_272.toInt = max r_199.toInt r_268.toInt := by rw [ey_272]; exact mmax_ok _ _
                                            have b_273 : bd (-2147483648) 2147483647 y_272 := max_rg ty_272 (bdT r_199) (bdT r_268) (by decide)
                                            refine lv_iadd hx hb dX0_closeParts_211 ?_
                                            refine lv_topi (fun y_274 ey_274 => ?_)
                                            refine lv_istore (lv' := [(6, .int y_274), (2, .int 1), (5, .int 0), (4, .int x_57), (3, .int v4_3), (0, .ref a0_), (1, .int x1_)]) hx hb dX0_closeParts_212 hl (by decide) rfl (fun ls hl => ?_)
                                            refine lv_aload_n hx hb dX0_closeParts_214 rfl (lv_at hl 5 rfl) ?_
                                            refine lv_iload hx hb dX0_closeParts_215 (lv_at hl 0 rfl) ?_
                                            refine g_callv (va_runV (As := [.int y_274]) (rest := []) ⟨hx, hb, hml, hown, hts⟩ (r_X0_addWhole l dC dI L kd tys fr_268 H.size g.2.2.2.1 a0_ ma0_ ka0_ y_274) (cwV 1 hts (gV_ t_1211 t_1213 t_17 t_190 t_1214) rfl rfl rfl (by decide +kernel) ⟨(Nat.le_of_ble_eq_true rfl), (Nat.le_of_ble_eq_true rfl)⟩) (pre3V g hK ma0_ ka0_ (by decide) (q := (RX0, TX0, 14)) rfl) rfl rfl hl.1 rfl (lv_room (Nat.le_of_ble_eq_true rfl)) dX0_closeParts_217 ⟨(Nat.le_of_ble_eq_true rfl), (Nat.le_of_ble_eq_true rfl)⟩) g hK (by decide) (by decide) (fx' := [(0, 5, a0_, .ref a_265), (7, 6, q1_, .int x_262), (0, 8, a0_, .int y_55), (8, 6, q0_, .int 1201), (8, 8, q0_, .int x_40), (0, 4, a0_, .ref a_37), (0, 3, a0_, .ref g76_0_3_a0_), (0, 0, a0_, .ref q0_), (0, 2, a0_, .ref q1_)]) rfl (fun fr_275 H locs hp hMr_275 g => ?_)
                                            obtain ⟨x_276, h_277, hF_278⟩ := hp
                                            have g := g.more hF_278
                                            refine lv_iload hx hb dX0_closeParts_220 (lv_at hl 0 rfl) ?_
                                            refine lv_bipush (v := 12) hx hb dX0_closeParts_222 (by decide) ?_
                                            refine lv_icmp_le (tgt := 245) hx hb dX0_closeParts_224 (by decide) (fun c_279 => ?_) (fun c_279 => ?_)
                                            · have fc_279 := le_f c_279
                                              have b_280 : bd (-2147483648) 12 y_274 := leL fc_279 (bdT y_274) kb_12 (by decide)
                                              obtain ⟨y_281, ey_281⟩ : ∃ z : Int32, z = v4_3 + 1 := ⟨_, rfl⟩
                                              refine lv_iinc (v := y_281) (lv' := [(3, .int y_281), (6, .int y_274), (2, .int 1), (5, .int 0), (4, .int x_57), (0, .ref a0_), (1, .int x1_)]) hx hb dX0_closeParts_245 hl (k := 4) rfl (by rw [ey_281]; rfl) (by decide) rfl (fun ls hl => ?_)
                                              have ty_281 := add_bd ey_281 b_48 kb_1 (by decide)
                                              have b_282 : bd 2 300 y_281 := add_rg ty_281 b_48 kb_1 (by decide)
                                              refine lv_goto (tgt := 4) hx hb dX0_closeParts_248 (by decide) ?_
                                              have hl9 := lv_sub hl [0, 1, 2, 3, 4, 5, 6] (by rfl : lv_pick [(3, .int y_281), (6, .int y_274), (2, .int 1), (5, .int 0), (4, .int x_57), (0, .ref a0_), (1, .int x1_)] [0, 1, 2, 3, 4, 5, 6] = [(3, .int y_281), (6, .int y_274), (2, .int 1), (5, .int 0), (4, .int x_57), (0, .ref a0_), (1, .int x1_)])
                                              have g9 := g.sub (fx' := [(8, 6, q0_, .int 1201), (8, 8, q0_, .int x_40), (0, 4, a0_, .ref a_37), (0, 12, a0_, .int 0), (0, 10, a0_, .int x_276), (7, 6, q1_, .int x_262), (0, 8, a0_, .int y_55), (0, 3, a0_, .ref g76_0_3_a0_), (0, 0, a0_, .ref q0_), (0, 2, a0_, .ref q1_)]) [5, 6, 7, 0, 1, 3, 4, 8, 9, 10] rfl
                                              exact ih4  y_281 y_274 1 0 x_57 x_276 x_262 y_55 (bd_sub b_282 (by decide)) (bd_sub kb_1 (by decide)) (bd_sub kb_0 (by decide)) h_277 h_263 (bd_sub b_56 (by decide)) (by have h9_0 := b_260; unfold bd at h9_0; have h9_1 := b_280; unfold bd at h9_1; have h9_2 := b_282; unfold bd at h9_2; have h9_3 := b_56; unfold bd at h9_3; have h9_4 := bdT v4_4; unfold bd at h9_4; have h9_5 := bdT v4_6; unfold bd at h9_5; have h9_6 := bv4_2; unfold bd at h9_6; have h9_7 := bv4_3; unfold bd at h9_7; have h9_8 := bv4_5; unfold bd at h9_8; have h9_9 := bw4_0_10_a0_; unfold bd at h9_9; have h9_10 := bw4_0_8_a0_; unfold bd at h9_10; have h9_11 := bw4_7_6_q1_; unfold bd at h9_11; have h9_12 := h_263; unfold bd at h9_12; have h9_13 := h_277; unfold bd at h9_13; have h9_14 := kb_0; unfold bd at h9_14; have h9_15 := kb_1; unfold bd at h9_15; have h9_16 := kb_12; unfold bd at h9_16; have h9_17 := kb_205; unfold bd at h9_17; have h9_18 := kb_206; unfold bd at h9_18; have h9_19 := kb_300; unfold bd at h9_19; have h9_20 := kb_6; unfold bd at h9_20; have h9_21 := kb_7; unfold bd at h9_21; omega) _ _ _ _ g9  hl9
                                            · have fc_279 := nle_f c_279
                                              have b_283 : bd 13 2147483647 y_274 := ltR fc_279 kb_12 (bdT y_274) (by decide)
                                              refine lv_aload_n hx hb dX0_closeParts_227 rfl (lv_at hl 5 rfl) ?_
                                              refine g_getk (C := RX0) (T := TX0) (N := 14) hx hb hts (mc_ inX0) hown hK g rfl 0 (by decide) rfl (hts _ (List.mem_cons_of_mem _ t_373)) (fun _ h9 => h9) 9 rfl dX0_closeParts_228 ?_
                                              refine lv_bipush (v := 7) hx hb dX0_closeParts_231 (by decide) ?_
                                              refine lv_aload_n hx hb dX0_closeParts_233 rfl (lv_at hl 5 rfl) ?_
                                              refine g_getk (C := RX0) (T := TX0) (N := 14) hx hb hts (mc_ inX0) hown hK g rfl 4 (by decide) rfl (hts _ (List.mem_cons_of_mem _ t_377)) (fun _ h9 => h9) 7 rfl dX0_closeParts_234 ?_
                                              refine lv_aload_n hx hb dX0_closeParts_237 rfl (lv_at hl 5 rfl) ?_
                                              refine g_getk (C := RX0) (T := TX0) (N := 14) hx hb hts (mc_ inX0) hown hK g rfl 8 (by decide) rfl (hts _ (List.mem_cons_of_mem _ t_381)) (fun _ h9 => h9) 4 rfl dX0_closeParts_238 ?_
                                              refine g_iald hx hb hK g ma_37 ka_37 (by decide) rfl (in_bd b_56 (by decide)) dX0_closeParts_241 (fun x_284 bx_284 cx_284 => ?_)
                                              refine g_callv (va_runV (As := [.int 7, .int x_284]) (rest := []) ⟨hx, hb, hml, hown, hts⟩ (r_X8_fail_2 l dC dI L kd tys fr_275 H.size g.2.2.2.1 q0_ mq0_ kq0_ 7 (bd_sub kb_7 (by decide)) x_284 x_40 h_41 (g.fcts [6] rfl)) (cwV 2 hts (gV_ t_1215 t_1107 t_1108 t_184 t_1109) rfl rfl rfl (by decide +kernel) ⟨(Nat.le_of_ble_eq_true rfl), (Nat.le_of_ble_eq_true rfl)⟩) (pre3V g hK mq0_ kq0_ (by decide) (q := (RX8, TX8, 10)) rfl) rfl rfl hl.1 rfl (lv_room (Nat.le_of_ble_eq_true rfl)) dX0_closeParts_242 ⟨(Nat.le_of_ble_eq_true rfl), (Nat.le_of_ble_eq_true rfl)⟩) g hK (by decide) (by decide) (fx' := [(0, 12, a0_, .int 0), (0, 10, a0_, .int x_276), (0, 5, a0_, .ref a_265), (7, 6, q1_, .int x_262), (0, 8, a0_, .int y_55), (8, 8, q0_, .int x_40), (0, 4, a0_, .ref a_37), (0, 3, a0_, .ref g76_0_3_a0_), (0, 0, a0_, .ref q0_), (0, 2, a0_, .ref q1_)]) rfl (fun fr_285 H locs hp hMr_285 g => ?_)
                                              have hF_286 := hp
                                              have g := g.more hF_286
                                              obtain ⟨y_287, ey_287⟩ : ∃ z : Int32, z = v4_3 + 1 := ⟨_, rfl⟩
                                              refine lv_iinc (v := y_287) (lv' := [(3, .int y_287), (6, .int y_274), (2, .int 1), (5, .int 0), (4, .int x_57), (0, .ref a0_), (1, .int x1_)]) hx hb dX0_closeParts_245 hl (k := 4) rfl (by rw [ey_287]; rfl) (by decide) rfl (fun ls hl => ?_)
                                              have ty_287 := add_bd ey_287 b_48 kb_1 (by decide)
                                              have b_288 : bd 2 300 y_287 := add_rg ty_287 b_48 kb_1 (by decide)
                                              refine lv_goto (tgt := 4) hx hb dX0_closeParts_248 (by decide) ?_
                                              have hl9 := lv_sub hl [0, 1, 2, 3, 4, 5, 6] (by rfl : lv_pick [(3, .int y_287), (6, .int y_274), (2, .int 1), (5, .int 0), (4, .int x_57), (0, .ref a0_), (1, .int x1_)] [0, 1, 2, 3, 4, 5, 6] = [(3, .int y_287), (6, .int y_274), (2, .int 1), (5, .int 0), (4, .int x_57), (0, .ref a0_), (1, .int x1_)])
                                              have g9 := g.sub (fx' := [(8, 6, q0_, .int 1201), (8, 8, q0_, .int x_40), (0, 4, a0_, .ref a_37), (0, 12, a0_, .int 0), (0, 10, a0_, .int x_276), (7, 6, q1_, .int x_262), (0, 8, a0_, .int y_55), (0, 3, a0_, .ref g76_0_3_a0_), (0, 0, a0_, .ref q0_), (0, 2, a0_, .ref q1_)]) [0, 6, 7, 1, 2, 4, 5, 8, 9, 10] rfl
                                              exact ih4  y_287 y_274 1 0 x_57 x_276 x_262 y_55 (bd_sub b_288 (by decide)) (bd_sub kb_1 (by decide)) (bd_sub kb_0 (by decide)) h_277 h_263 (bd_sub b_56 (by decide)) (by have h9_0 := b_260; unfold bd at h9_0; have h9_1 := b_283; unfold bd at h9_1; have h9_2 := b_288; unfold bd at h9_2; have h9_3 := b_56; unfold bd at h9_3; have h9_4 := bdT v4_4; unfold bd at h9_4; have h9_5 := bdT v4_6; unfold bd at h9_5; have h9_6 := bv4_2; unfold bd at h9_6; have h9_7 := bv4_3; unfold bd at h9_7; have h9_8 := bv4_5; unfold bd at h9_8; have h9_9 := bw4_0_10_a0_; unfold bd at h9_9; have h9_10 := bw4_0_8_a0_; unfold bd at h9_10; have h9_11 := bw4_7_6_q1_; unfold bd at h9_11; have h9_12 := h_263; unfold bd at h9_12; have h9_13 := h_277; unfold bd at h9_13; have h9_14 := kb_0; unfold bd at h9_14; have h9_15 := kb_1; unfold bd at h9_15; have h9_16 := kb_12; unfold bd at h9_16; have h9_17 := kb_205; unfold bd at h9_17; have h9_18 := kb_206; unfold bd at h9_18; have h9_19 := kb_300; unfold bd at h9_19; have h9_20 := kb_6; unfold bd at h9_20; have h9_21 := kb_7; unfold bd at h9_21; omega) _ _ _ _ g9  hl9
                                  · have fc_90 := eq_f c_90
                                    have b_289 : bd 7 7 x_57 := eqX fc_90 (bdT x_57) kb_7 (by decide)
                                    refine lv_iconst (v := 1) hx hb dX0_closeParts_49 (by decide) ?_
                                    refine lv_goto (tgt := 54) hx hb dX0_closeParts_50 (by decide) ?_
                                    refine lv_istore (lv' := [(5, .int 1), (4, .int x_57), (3, .int v4_3), (6, .int v4_6), (2, .int v4_2), (0, .ref a0_), (1, .int x1_)]) hx hb dX0_closeParts_54 hl (by decide) rfl (fun ls hl => ?_)
                                    refine lv_iload hx hb dX0_closeParts_56 (lv_at hl 0 rfl) ?_
                                    refine lv_if_ne (tgt := 70) hx hb dX0_closeParts_58 (by decide) (fun c_ => ?_) (fun c_ => absurd c_ (by decide))
                                    refine lv_iconst (v := 1) hx hb dX0_closeParts_70 (by decide) ?_
                                    refine lv_goto (tgt := 75) hx hb dX0_closeParts_71 (by decide) ?_
                                    refine lv_istore_n (lv' := [(2, .int 1), (5, .int 1), (4, .int x_57), (3, .int v4_3), (6, .int v4_6), (0, .ref a0_), (1, .int x1_)]) hx hb dX0_closeParts_75 rfl hl (by decide) rfl (fun ls hl => ?_)
                                    refine lv_iload_n hx hb dX0_closeParts_76 rfl (lv_at hl 0 rfl) ?_
                                    refine lv_if_eq (tgt := 245) hx hb dX0_closeParts_77 (by decide) (fun c_ => absurd c_ (by decide)) (fun c_ => ?_)
                                    refine lv_aload_n hx hb dX0_closeParts_80 rfl (lv_at hl 5 rfl) ?_
                                    refine lv_dup hx hb dX0_closeParts_81 rfl ?_
                                    refine g_getk (C := RX0) (T := TX0) (N := 14) hx hb hts (mc_ inX0) hown hK g rfl 8 (by decide) rfl (hts _ (List.mem_cons_of_mem _ t_381)) (fun _ h9 => h9) 6 rfl dX0_closeParts_82 ?_
                                    refine lv_iconst (v := 1) hx hb dX0_closeParts_85 (by decide) ?_
                                    refine lv_isub hx hb dX0_closeParts_86 ?_
                                    refine lv_topi (fun y_290 ey_290 => ?_)
                                    obtain rfl : y_55 = y_290 := ey_55.trans ey_290.symm
                                    refine g_put (C := RX0) (T := TX0) (N := 14) hx hb hts (mc_ inX0) tyX0 tyX0_ok nmX0 hown hK g ma0_ ka0_ (by decide) rfl 8 (by decide) (hts _ (List.mem_cons_of_mem _ t_381)) (fun _ h9 => h9) rfl rfl (okV_i (bd_sub b_56 (by decide))) rfl rfl (by decide) (Or.inr (Or.inl (by decide))) (fx' := [(8, 6, q0_, .int 1201), (8, 8, q0_, .int x_40), (0, 4, a0_, .ref a_37), (0, 12, a0_, .int 0), (0, 10, a0_, .int w4_0_10_a0_), (7, 6, q1_, .int w4_7_6_q1_), (0, 3, a0_, .ref g76_0_3_a0_), (0, 0, a0_, .ref q0_), (0, 2, a0_, .ref q1_)]) rfl dX0_closeParts_87 (fun f H locs hM_291 g => ?_)
                                    refine lv_aload_n hx hb dX0_closeParts_90 rfl (lv_at hl 5 rfl) ?_
                                    refine g_calli (va_runV (As := []) (rest := []) ⟨hx, hb, hml, hown, hts⟩ (r_X0_takeHeight l dC dI L kd tys f H.size g.2.2.2.1 a0_ ma0_ ka0_) (cwV 0 hts (gV_ t_1199 t_1201 t_16 t_190 t_1202) rfl rfl rfl (by decide +kernel) ⟨(Nat.le_of_ble_eq_true rfl), (Nat.le_of_ble_eq_true rfl)⟩) (pre3V g hK ma0_ ka0_ (by decide) (q := (RX0, TX0, 14)) rfl) rfl rfl hl.1 rfl (lv_room (Nat.le_of_ble_eq_true rfl)) dX0_closeParts_91 ⟨(Nat.le_of_ble_eq_true rfl), (Nat.le_of_ble_eq_true rfl)⟩) g hK (by decide) (by decide) (fx' := [(0, 8, a0_, .int y_55), (8, 6, q0_, .int 1201), (8, 8, q0_, .int x_40), (0, 4, a0_, .ref a_37), (0, 12, a0_, .int 0), (7, 6, q1_, .int w4_7_6_q1_), (0, 3, a0_, .ref g76_0_3_a0_), (0, 0, a0_, .ref q0_), (0, 2, a0_, .ref q1_)]) rfl (fun r_292 fr_292 H locs hp hMr_292 g => ?_)
                                    obtain ⟨x_293, h_294, hF_295⟩ := hp
                                    have g := g.more hF_295
                                    refine lv_istore (lv' := [(6, .int r_292), (2, .int 1), (5, .int 1), (4, .int x_57), (3, .int v4_3), (0, .ref a0_), (1, .int x1_)]) hx hb dX0_closeParts_94 hl (by decide) rfl (fun ls hl => ?_)
                                    refine lv_iload hx hb dX0_closeParts_96 (lv_at hl 2 rfl) ?_
                                    refine lv_if_eq (tgt := 136) hx hb dX0_closeParts_98 (by decide) (fun c_ => absurd c_ (by decide)) (fun c_ => ?_)
                                    refine lv_aload_n hx hb dX0_closeParts_101 rfl (lv_at hl 5 rfl) ?_
                                    refine lv_dup hx hb dX0_closeParts_102 rfl ?_
                                    refine g_geti (C := RX0) (T := TX0) (N := 14) hx hb hts (mc_ inX0) hown hK g ma0_ ka0_ (by decide) rfl 11 (by decide) rfl (hts _ (List.mem_cons_of_mem _ t_384)) (fun _ h9 => h9) rfl dX0_closeParts_103 (fun x_296 bx_296 g => ?_)
                                    refine lv_iconst (v := 1) hx hb dX0_closeParts_106 (by decide) ?_
                                    refine lv_isub hx hb dX0_closeParts_107 ?_
                                    refine lv_topi (fun y_297 ey_297 => ?_)
                                    refine g_put (C := RX0) (T := TX0) (N := 14) hx hb hts (mc_ inX0) tyX0 tyX0_ok nmX0 hown hK g ma0_ ka0_ (by decide) rfl 11 (by decide) (hts _ (List.mem_cons_of_mem _ t_384)) (fun _ h9 => h9) rfl rfl (okV_i (bdT y_297)) rfl rfl (by decide) (Or.inr (Or.inl (by decide))) (fx' := [(0, 10, a0_, .int x_293), (0, 8, a0_, .int y_55), (8, 6, q0_, .int 1201), (8, 8, q0_, .int x_40), (0, 4, a0_, .ref a_37), (0, 12, a0_, .int 0), (7, 6, q1_, .int w4_7_6_q1_), (0, 3, a0_, .ref g76_0_3_a0_), (0, 0, a0_, .ref q0_), (0, 2, a0_, .ref q1_)]) rfl dX0_closeParts_108 (fun f H locs hM_298 g => ?_)
                                    refine lv_aload_n hx hb dX0_closeParts_111 rfl (lv_at hl 5 rfl) ?_
                                    refine g_getk (C := RX0) (T := TX0) (N := 14) hx hb hts (mc_ inX0) hown hK g rfl 2 (by decide) rfl (hts _ (List.mem_cons_of_mem _ t_375)) (fun _ h9 => h9) 10 rfl dX0_closeParts_112 ?_
                                    refine lv_iload hx hb dX0_closeParts_115 (lv_at hl 3 rfl) ?_
                                    refine lv_bipush (v := 6) hx hb dX0_closeParts_117 (by decide) ?_
                                    refine lv_icmp_ne (tgt := 127) hx hb dX0_closeParts_119 (by decide) (fun c_299 => ?_) (fun c_299 => ?_)
                                    · have fc_299 := neq_f c_299
                                      refine lv_bipush (v := 7) hx hb dX0_closeParts_127 (by decide) ?_
                                      refine lv_iconst (v := 0) hx hb dX0_closeParts_129 (by decide) ?_
                                      refine g_callv (va_runV (As := [.int 7, .int 0]) (rest := []) ⟨hx, hb, hml, hown, hts⟩ (r_X7_emit l dC dI L kd tys f H.size g.2.2.2.1 q1_ mq1_ kq1_ 7 0) (cwV 2 hts (gV_ t_1203 t_1204 t_1205 t_191 t_1206) rfl rfl rfl (by decide +kernel) ⟨(Nat.le_of_ble_eq_true rfl), (Nat.le_of_ble_eq_true rfl)⟩) (pre3V g hK mq1_ kq1_ (by decide) (q := (RX7, TX7, 19)) rfl) rfl rfl hl.1 rfl (lv_room (Nat.le_of_ble_eq_true rfl)) dX0_closeParts_130 ⟨(Nat.le_of_ble_eq_true rfl), (Nat.le_of_ble_eq_true rfl)⟩) g hK (by decide) (by decide) (fx' := [(0, 11, a0_, .int y_297), (0, 10, a0_, .int x_293), (0, 8, a0_, .int y_55), (8, 6, q0_, .int 1201), (8, 8, q0_, .int x_40), (0, 4, a0_, .ref a_37), (0, 12, a0_, .int 0), (0, 3, a0_, .ref g76_0_3_a0_), (0, 0, a0_, .ref q0_), (0, 2, a0_, .ref q1_)]) rfl (fun fr_300 H locs hp hMr_300 g => ?_)
                                      obtain ⟨x_301, h_302, hF_303⟩ := hp
                                      have g := g.more hF_303
                                      refine lv_goto (tgt := 191) hx hb dX0_closeParts_133 (by decide) ?_
                                      refine lv_iconst (v := 1) hx hb dX0_closeParts_191 (by decide) ?_
                                      refine lv_iload hx hb dX0_closeParts_192 (lv_at hl 2 rfl) ?_
                                      refine lv_if_eq (tgt := 202) hx hb dX0_closeParts_194 (by decide) (fun c_ => absurd c_ (by decide)) (fun c_ => ?_)
                                      refine lv_iload hx hb dX0_closeParts_197 (lv_at hl 0 rfl) ?_
                                      refine lv_goto (tgt := 211) hx hb dX0_closeParts_199 (by decide) ?_
                                      refine lv_iadd hx hb dX0_closeParts_211 ?_
                                      refine lv_topi (fun y_304 ey_304 => ?_)
                                      refine lv_istore (lv' := [(6, .int y_304), (2, .int 1), (5, .int 1), (4, .int x_57), (3, .int v4_3), (0, .ref a0_), (1, .int x1_)]) hx hb dX0_closeParts_212 hl (by decide) rfl (fun ls hl => ?_)
                                      refine lv_aload_n hx hb dX0_closeParts_214 rfl (lv_at hl 5 rfl) ?_
                                      refine lv_iload hx hb dX0_closeParts_215 (lv_at hl 0 rfl) ?_
                                      refine g_callv (va_runV (As := [.int y_304]) (rest := []) ⟨hx, hb, hml, hown, hts⟩ (r_X0_addWhole l dC dI L kd tys fr_300 H.size g.2.2.2.1 a0_ ma0_ ka0_ y_304) (cwV 1 hts (gV_ t_1211 t_1213 t_17 t_190 t_1214) rfl rfl rfl (by decide +kernel) ⟨(Nat.le_of_ble_eq_true rfl), (Nat.le_of_ble_eq_true rfl)⟩) (pre3V g hK ma0_ ka0_ (by decide) (q := (RX0, TX0, 14)) rfl) rfl rfl hl.1 rfl (lv_room (Nat.le_of_ble_eq_true rfl)) dX0_closeParts_217 ⟨(Nat.le_of_ble_eq_true rfl), (Nat.le_of_ble_eq_true rfl)⟩) g hK (by decide) (by decide) (fx' := [(7, 6, q1_, .int x_301), (0, 11, a0_, .int y_297), (0, 8, a0_, .int y_55), (8, 6, q0_, .int 1201), (8, 8, q0_, .int x_40), (0, 4, a0_, .ref a_37), (0, 3, a0_, .ref g76_0_3_a0_), (0, 0, a0_, .ref q0_), (0, 2, a0_, .ref q1_)]) rfl (fun fr_305 H locs hp hMr_305 g => ?_)
                                      obtain ⟨x_306, h_307, hF_308⟩ := hp
                                      have g := g.more hF_308
                                      refine lv_iload hx hb dX0_closeParts_220 (lv_at hl 0 rfl) ?_
                                      refine lv_bipush (v := 12) hx hb dX0_closeParts_222 (by decide) ?_
                                      refine lv_icmp_le (tgt := 245) hx hb dX0_closeParts_224 (by decide) (fun c_309 => ?_) (fun c_309 => ?_)
                                      · have fc_309 := le_f c_309
                                        have b_310 : bd (-2147483648) 12 y_304 := leL fc_309 (bdT y_304) kb_12 (by decide)
                                        obtain ⟨y_311, ey_311⟩ : ∃ z : Int32, z = v4_3 + 1 := ⟨_, rfl⟩
                                        refine lv_iinc (v := y_311) (lv' := [(3, .int y_311), (6, .int y_304), (2, .int 1), (5, .int 1), (4, .int x_57), (0, .ref a0_), (1, .int x1_)]) hx hb dX0_closeParts_245 hl (k := 4) rfl (by rw [ey_311]; rfl) (by decide) rfl (fun ls hl => ?_)
                                        have ty_311 := add_bd ey_311 b_48 kb_1 (by decide)
                                        have b_312 : bd 2 300 y_311 := add_rg ty_311 b_48 kb_1 (by decide)
                                        refine lv_goto (tgt := 4) hx hb dX0_closeParts_248 (by decide) ?_
                                        have hl9 := lv_sub hl [0, 1, 2, 3, 4, 5, 6] (by rfl : lv_pick [(3, .int y_311), (6, .int y_304), (2, .int 1), (5, .int 1), (4, .int x_57), (0, .ref a0_), (1, .int x1_)] [0, 1, 2, 3, 4, 5, 6] = [(3, .int y_311), (6, .int y_304), (2, .int 1), (5, .int 1), (4, .int x_57), (0, .ref a0_), (1, .int x1_)])
                                        have g9 := g.sub (fx' := [(8, 6, q0_, .int 1201), (8, 8, q0_, .int x_40), (0, 4, a0_, .ref a_37), (0, 12, a0_, .int 0), (0, 10, a0_, .int x_306), (7, 6, q1_, .int x_301), (0, 8, a0_, .int y_55), (0, 3, a0_, .ref g76_0_3_a0_), (0, 0, a0_, .ref q0_), (0, 2, a0_, .ref q1_)]) [5, 6, 7, 0, 1, 2, 4, 8, 9, 10] rfl
                                        exact ih4  y_311 y_304 1 1 x_57 x_306 x_301 y_55 (bd_sub b_312 (by decide)) (bd_sub kb_1 (by decide)) (bd_sub kb_1 (by decide)) h_307 h_302 (bd_sub b_56 (by decide)) (by have h9_0 := b_289; unfold bd at h9_0; have h9_1 := b_310; unfold bd at h9_1; have h9_2 := b_312; unfold bd at h9_2; have h9_3 := b_56; unfold bd at h9_3; have h9_4 := bdT v4_4; unfold bd at h9_4; have h9_5 := bdT v4_6; unfold bd at h9_5; have h9_6 := bv4_2; unfold bd at h9_6; have h9_7 := bv4_3; unfold bd at h9_7; have h9_8 := bv4_5; unfold bd at h9_8; have h9_9 := bw4_0_10_a0_; unfold bd at h9_9; have h9_10 := bw4_0_8_a0_; unfold bd at h9_10; have h9_11 := bw4_7_6_q1_; unfold bd at h9_11; have h9_12 := h_302; unfold bd at h9_12; have h9_13 := h_307; unfold bd at h9_13; have h9_14 := kb_0; unfold bd at h9_14; have h9_15 := kb_1; unfold bd at h9_15; have h9_16 := kb_12; unfold bd at h9_16; have h9_17 := kb_300; unfold bd at h9_17; have h9_18 := kb_6; unfold bd at h9_18; have h9_19 := kb_7; unfold bd at h9_19; omega) _ _ _ _ g9  hl9
                                      · have fc_309 := nle_f c_309
                                        have b_313 : bd 13 2147483647 y_304 := ltR fc_309 kb_12 (bdT y_304) (by decide)
                                        refine lv_aload_n hx hb dX0_closeParts_227 rfl (lv_at hl 5 rfl) ?_
                                        refine g_getk (C := RX0) (T := TX0) (N := 14) hx hb hts (mc_ inX0) hown hK g rfl 0 (by decide) rfl (hts _ (List.mem_cons_of_mem _ t_373)) (fun _ h9 => h9) 9 rfl dX0_closeParts_228 ?_
                                        refine lv_bipush (v := 7) hx hb dX0_closeParts_231 (by decide) ?_
                                        refine lv_aload_n hx hb dX0_closeParts_233 rfl (lv_at hl 5 rfl) ?_
                                        refine g_getk (C := RX0) (T := TX0) (N := 14) hx hb hts (mc_ inX0) hown hK g rfl 4 (by decide) rfl (hts _ (List.mem_cons_of_mem _ t_377)) (fun _ h9 => h9) 7 rfl dX0_closeParts_234 ?_
                                        refine lv_aload_n hx hb dX0_closeParts_237 rfl (lv_at hl 5 rfl) ?_
                                        refine g_getk (C := RX0) (T := TX0) (N := 14) hx hb hts (mc_ inX0) hown hK g rfl 8 (by decide) rfl (hts _ (List.mem_cons_of_mem _ t_381)) (fun _ h9 => h9) 4 rfl dX0_closeParts_238 ?_
                                        refine g_iald hx hb hK g ma_37 ka_37 (by decide) rfl (in_bd b_56 (by decide)) dX0_closeParts_241 (fun x_314 bx_314 cx_314 => ?_)
                                        refine g_callv (va_runV (As := [.int 7, .int x_314]) (rest := []) ⟨hx, hb, hml, hown, hts⟩ (r_X8_fail_2 l dC dI L kd tys fr_305 H.size g.2.2.2.1 q0_ mq0_ kq0_ 7 (bd_sub kb_7 (by decide)) x_314 x_40 h_41 (g.fcts [6] rfl)) (cwV 2 hts (gV_ t_1215 t_1107 t_1108 t_184 t_1109) rfl rfl rfl (by decide +kernel) ⟨(Nat.le_of_ble_eq_true rfl), (Nat.le_of_ble_eq_true rfl)⟩) (pre3V g hK mq0_ kq0_ (by decide) (q := (RX8, TX8, 10)) rfl) rfl rfl hl.1 rfl (lv_room (Nat.le_of_ble_eq_true rfl)) dX0_closeParts_242 ⟨(Nat.le_of_ble_eq_true rfl), (Nat.le_of_ble_eq_true rfl)⟩) g hK (by decide) (by decide) (fx' := [(0, 12, a0_, .int 0), (0, 10, a0_, .int x_306), (7, 6, q1_, .int x_301), (0, 11, a0_, .int y_297), (0, 8, a0_, .int y_55), (8, 8, q0_, .int x_40), (0, 4, a0_, .ref a_37), (0, 3, a0_, .ref g76_0_3_a0_), (0, 0, a0_, .ref q0_), (0, 2, a0_, .ref q1_)]) rfl (fun fr_315 H locs hp hMr_315 g => ?_)
                                        have hF_316 := hp
                                        have g := g.more hF_316
                                        obtain ⟨y_317, ey_317⟩ : ∃ z : Int32, z = v4_3 + 1 := ⟨_, rfl⟩
                                        refine lv_iinc (v := y_317) (lv' := [(3, .int y_317), (6, .int y_304), (2, .int 1), (5, .int 1), (4, .int x_57), (0, .ref a0_), (1, .int x1_)]) hx hb dX0_closeParts_245 hl (k := 4) rfl (by rw [ey_317]; rfl) (by decide) rfl (fun ls hl => ?_)
                                        have ty_317 := add_bd ey_317 b_48 kb_1 (by decide)
                                        have b_318 : bd 2 300 y_317 := add_rg ty_317 b_48 kb_1 (by decide)
                                        refine lv_goto (tgt := 4) hx hb dX0_closeParts_248 (by decide) ?_
                                        have hl9 := lv_sub hl [0, 1, 2, 3, 4, 5, 6] (by rfl : lv_pick [(3, .int y_317), (6, .int y_304), (2, .int 1), (5, .int 1), (4, .int x_57), (0, .ref a0_), (1, .int x1_)] [0, 1, 2, 3, 4, 5, 6] = [(3, .int y_317), (6, .int y_304), (2, .int 1), (5, .int 1), (4, .int x_57), (0, .ref a0_), (1, .int x1_)])
                                        have g9 := g.sub (fx' := [(8, 6, q0_, .int 1201), (8, 8, q0_, .int x_40), (0, 4, a0_, .ref a_37), (0, 12, a0_, .int 0), (0, 10, a0_, .int x_306), (7, 6, q1_, .int x_301), (0, 8, a0_, .int y_55), (0, 3, a0_, .ref g76_0_3_a0_), (0, 0, a0_, .ref q0_), (0, 2, a0_, .ref q1_)]) [0, 6, 7, 1, 2, 3, 5, 8, 9, 10] rfl
                                        exact ih4  y_317 y_304 1 1 x_57 x_306 x_301 y_55 (bd_sub b_318 (by decide)) (bd_sub kb_1 (by decide)) (bd_sub kb_1 (by decide)) h_307 h_302 (bd_sub b_56 (by decide)) (by have h9_0 := b_289; unfold bd at h9_0; have h9_1 := b_313; unfold bd at h9_1; have h9_2 := b_318; unfold bd at h9_2; have h9_3 := b_56; unfold bd at h9_3; have h9_4 := bdT v4_4; unfold bd at h9_4; have h9_5 := bdT v4_6; unfold bd at h9_5; have h9_6 := bv4_2; unfold bd at h9_6; have h9_7 := bv4_3; unfold bd at h9_7; have h9_8 := bv4_5; unfold bd at h9_8; have h9_9 := bw4_0_10_a0_; unfold bd at h9_9; have h9_10 := bw4_0_8_a0_; unfold bd at h9_10; have h9_11 := bw4_7_6_q1_; unfold bd at h9_11; have h9_12 := h_302; unfold bd at h9_12; have h9_13 := h_307; unfold bd at h9_13; have h9_14 := kb_0; unfold bd at h9_14; have h9_15 := kb_1; unfold bd at h9_15; have h9_16 := kb_12; unfold bd at h9_16; have h9_17 := kb_300; unfold bd at h9_17; have h9_18 := kb_6; unfold bd at h9_18; have h9_19 := kb_7; unfold bd at h9_19; omega) _ _ _ _ g9  hl9
                                    · have fc_299 := eq_f c_299
                                      have b_319 : bd 7 6 x_57 := eqX fc_299 b_289 kb_6 (by decide)
                                      exact bd_no b_319 (by decide)
                      have hl9 := lv_sub hl [0, 1, 2, 3, 4, 5, 6] (by rfl : lv_pick [(3, .int y_43), (6, .int y_27), (2, .int j76_2), (5, .int j76_5), (4, .int j76_4), (0, .ref a0_), (1, .int x1_)] [0, 1, 2, 3, 4, 5, 6] = [(3, .int y_43), (6, .int y_27), (2, .int j76_2), (5, .int j76_5), (4, .int j76_4), (0, .ref a0_), (1, .int x1_)])
                      have g9 := g.sub (fx' := [(8, 6, q0_, .int 1201), (8, 8, q0_, .int x_40), (0, 4, a0_, .ref a_37), (0, 12, a0_, .int 0), (0, 10, a0_, .int x_29), (7, 6, q1_, .int g191_7_6_q1_), (0, 8, a0_, .int g191_0_8_a0_), (0, 3, a0_, .ref g76_0_3_a0_), (0, 0, a0_, .ref q0_), (0, 2, a0_, .ref q1_)]) [0, 1, 2, 3, 4, 5, 6, 7, 8, 9] rfl
                      exact loop_45 (601) y_43 y_27 j76_2 j76_5 j76_4 x_29 g191_7_6_q1_ g191_0_8_a0_ b_44 (bd_sub b_17 (by decide)) (bd_sub b_20 (by decide)) h_30 bg191_7_6_q1_ bg191_0_8_a0_ (by have h9_0 := b_17; unfold bd at h9_0; have h9_1 := b_20; unfold bd at h9_1; have h9_2 := b_36; unfold bd at h9_2; have h9_3 := b_44; unfold bd at h9_3; have h9_4 := bdT j76_4; unfold bd at h9_4; have h9_5 := bg191_0_8_a0_; unfold bd at h9_5; have h9_6 := bg191_7_6_q1_; unfold bd at h9_6; have h9_7 := h_30; unfold bd at h9_7; have h9_8 := kb_0; unfold bd at h9_8; have h9_9 := kb_1; unfold bd at h9_9; have h9_10 := kb_12; unfold bd at h9_10; have h9_11 := kb_300; unfold bd at h9_11; have h9_12 := kb_7; unfold bd at h9_12; omega) _ _ _ _ g9  hl9
                  · have fc_19 := neq_f c_19
                    have b_320 : bd 1 1 j76_5 := neX fc_19 bj76_5 kb_0 (by decide)
                    refine lv_iload hx hb dX0_closeParts_197 (lv_at hl 0 rfl) ?_
                    refine lv_goto (tgt := 211) hx hb dX0_closeParts_199 (by decide) ?_
                    have kb_1 : bd 1 1 (1 : Int32) := ⟨by decide, by decide⟩
                    refine lv_iadd hx hb dX0_closeParts_211 ?_
                    refine lv_topi (fun y_321 ey_321 => ?_)
                    refine lv_istore (lv' := [(6, .int y_321), (2, .int j76_2), (5, .int j76_5), (4, .int j76_4), (3, .int v4_3), (0, .ref a0_), (1, .int x1_)]) hx hb dX0_closeParts_212 hl (by decide) rfl (fun ls hl => ?_)
                    refine lv_aload_n hx hb dX0_closeParts_214 rfl (lv_at hl 5 rfl) ?_
                    refine lv_iload hx hb dX0_closeParts_215 (lv_at hl 0 rfl) ?_
                    refine g_callv (va_runV (As := [.int y_321]) (rest := []) ⟨hx, hb, hml, hown, hts⟩ (r_X0_addWhole l dC dI L kd tys f H.size g.2.2.2.1 a0_ ma0_ ka0_ y_321) (cwV 1 hts (gV_ t_1211 t_1213 t_17 t_190 t_1214) rfl rfl rfl (by decide +kernel) ⟨(Nat.le_of_ble_eq_true rfl), (Nat.le_of_ble_eq_true rfl)⟩) (pre3V g hK ma0_ ka0_ (by decide) (q := (RX0, TX0, 14)) rfl) rfl rfl hl.1 rfl (lv_room (Nat.le_of_ble_eq_true rfl)) dX0_closeParts_217 ⟨(Nat.le_of_ble_eq_true rfl), (Nat.le_of_ble_eq_true rfl)⟩) g hK (by decide) (by decide) (fx' := [(7, 6, q1_, .int g191_7_6_q1_), (0, 8, a0_, .int g191_0_8_a0_), (0, 3, a0_, .ref g76_0_3_a0_), (0, 0, a0_, .ref q0_), (0, 2, a0_, .ref q1_), (8, 8, q0_, .int y0_)]) rfl (fun fr_322 H locs hp hMr_322 g => ?_)
                    obtain ⟨x_323, h_324, hF_325⟩ := hp
                    have g := g.more hF_325
                    refine lv_iload hx hb dX0_closeParts_220 (lv_at hl 0 rfl) ?_
                    refine lv_bipush (v := 12) hx hb dX0_closeParts_222 (by decide) ?_
                    have kb_12 : bd 12 12 (12 : Int32) := ⟨by decide, by decide⟩
                    refine lv_icmp_le (tgt := 245) hx hb dX0_closeParts_224 (by decide) (fun c_326 => ?_) (fun c_326 => ?_)
                    · have fc_326 := le_f c_326
                      have b_327 : bd (-2147483648) 12 y_321 := leL fc_326 (bdT y_321) kb_12 (by decide)
                      obtain ⟨y_328, ey_328⟩ : ∃ z : Int32, z = v4_3 + 1 := ⟨_, rfl⟩
                      refine lv_iinc (v := y_328) (lv' := [(3, .int y_328), (6, .int y_321), (2, .int j76_2), (5, .int j76_5), (4, .int j76_4), (0, .ref a0_), (1, .int x1_)]) hx hb dX0_closeParts_245 hl (k := 4) rfl (by rw [ey_328]; rfl) (by decide) rfl (fun ls hl => ?_)
                      have ty_328 := add_bd ey_328 b_4 kb_1 (by decide)
                      have b_329 : bd 1 300 y_328 := add_rg ty_328 b_4 kb_1 (by decide)
                      refine lv_goto (tgt := 4) hx hb dX0_closeParts_248 (by decide) ?_
                      have hl9 := lv_sub hl [0, 2, 5, 6] (by rfl : lv_pick [(3, .int y_328), (6, .int y_321), (2, .int j76_2), (5, .int j76_5), (4, .int j76_4), (0, .ref a0_), (1, .int x1_)] [0, 2, 5, 6] = [(3, .int y_328), (2, .int j76_2), (0, .ref a0_), (1, .int x1_)])
                      have g9 := g.sub (fx' := [(0, 0, a0_, .ref q0_), (0, 2, a0_, .ref q1_), (8, 8, q0_, .int y0_)]) [5, 6, 7] rfl
                      exact ih4  y_328 j76_2 (bd_sub b_329 (by decide)) (bd_sub b_17 (by decide)) (by have h9_0 := b_17; unfold bd at h9_0; have h9_1 := b_329; unfold bd at h9_1; have h9_2 := bv4_2; unfold bd at h9_2; have h9_3 := bv4_3; unfold bd at h9_3; have h9_4 := kb_0; unfold bd at h9_4; have h9_5 := kb_1; unfold bd at h9_5; have h9_6 := kb_12; unfold bd at h9_6; have h9_7 := kb_300; unfold bd at h9_7; omega) _ _ _ _ g9  hl9
                    · have fc_326 := nle_f c_326
                      have b_330 : bd 13 2147483647 y_321 := ltR fc_326 kb_12 (bdT y_321) (by decide)
                      refine lv_aload_n hx hb dX0_closeParts_227 rfl (lv_at hl 5 rfl) ?_
                      refine g_getk (C := RX0) (T := TX0) (N := 14) hx hb hts (mc_ inX0) hown hK g rfl 0 (by decide) rfl (hts _ (List.mem_cons_of_mem _ t_373)) (fun _ h9 => h9) 5 rfl dX0_closeParts_228 ?_
                      refine lv_bipush (v := 7) hx hb dX0_closeParts_231 (by decide) ?_
                      refine lv_aload_n hx hb dX0_closeParts_233 rfl (lv_at hl 5 rfl) ?_
                      refine g_getr (K := 111) (C := RX0) (T := TX0) (N := 14) hx hb hts (mc_ inX0) hown hK g ma0_ ka0_ (by decide) rfl 4 (by decide) rfl (hts _ (List.mem_cons_of_mem _ t_377)) (fun _ h9 => h9) rfl dX0_closeParts_234 (fun a_331 ma_331 ka_331 g => ?_)
                      refine lv_aload_n hx hb dX0_closeParts_237 rfl (lv_at hl 5 rfl) ?_
                      refine g_getk (C := RX0) (T := TX0) (N := 14) hx hb hts (mc_ inX0) hown hK g rfl 8 (by decide) rfl (hts _ (List.mem_cons_of_mem _ t_381)) (fun _ h9 => h9) 4 rfl dX0_closeParts_238 ?_
                      refine g_iald hx hb hK g ma_331 ka_331 (by decide) rfl (in_bd bg191_0_8_a0_ (by decide)) dX0_closeParts_241 (fun x_332 bx_332 cx_332 => ?_)
                      have kb_7 : bd 7 7 (7 : Int32) := ⟨by decide, by decide⟩
                      refine g_callv (va_runV (As := [.int 7, .int x_332]) (rest := []) ⟨hx, hb, hml, hown, hts⟩ (r_X8_fail l dC dI L kd tys fr_322 H.size g.2.2.2.1 q0_ mq0_ kq0_ 7 (bd_sub kb_7 (by decide)) x_332 y0_ by0_ (g.fcts [8] rfl)) (cwV 2 hts (gV_ t_1215 t_1107 t_1108 t_184 t_1109) rfl rfl rfl (by decide +kernel) ⟨(Nat.le_of_ble_eq_true rfl), (Nat.le_of_ble_eq_true rfl)⟩) (pre3V g hK mq0_ kq0_ (by decide) (q := (RX8, TX8, 10)) rfl) rfl rfl hl.1 rfl (lv_room (Nat.le_of_ble_eq_true rfl)) dX0_closeParts_242 ⟨(Nat.le_of_ble_eq_true rfl), (Nat.le_of_ble_eq_true rfl)⟩) g hK (by decide) (by decide) (fx' := [(0, 4, a0_, .ref a_331), (0, 12, a0_, .int 0), (0, 10, a0_, .int x_323), (7, 6, q1_, .int g191_7_6_q1_), (0, 8, a0_, .int g191_0_8_a0_), (0, 3, a0_, .ref g76_0_3_a0_), (0, 0, a0_, .ref q0_), (0, 2, a0_, .ref q1_)]) rfl (fun fr_333 H locs hp hMr_333 g => ?_)
                      obtain ⟨x_334, h_335, hF_336⟩ := hp
                      have g := g.more hF_336
                      obtain ⟨y_337, ey_337⟩ : ∃ z : Int32, z = v4_3 + 1 := ⟨_, rfl⟩
                      refine lv_iinc (v := y_337) (lv' := [(3, .int y_337), (6, .int y_321), (2, .int j76_2), (5, .int j76_5), (4, .int j76_4), (0, .ref a0_), (1, .int x1_)]) hx hb dX0_closeParts_245 hl (k := 4) rfl (by rw [ey_337]; rfl) (by decide) rfl (fun ls hl => ?_)
                      have ty_337 := add_bd ey_337 b_4 kb_1 (by decide)
                      have b_338 : bd 1 300 y_337 := add_rg ty_337 b_4 kb_1 (by decide)
                      refine lv_goto (tgt := 4) hx hb dX0_closeParts_248 (by decide) ?_
                      have loop_339 : ∀ (n : Nat) (v4_3 : Int32) (v4_6 : Int32) (v4_2 : Int32) (v4_5 : Int32) (v4_4 : Int32) (w4_0_10_a0_ : Int32) (w4_7_6_q1_ : Int32) (w4_0_8_a0_ : Int32), bd 1 300 v4_3 → bd 0 1 v4_2 → bd 0 1 v4_5 → bd 1 300 w4_0_10_a0_ → bd 1 2000 w4_7_6_q1_ → bd 0 299 w4_0_8_a0_ → (300 - v4_3.toInt < (n : Int)) → ∀ (f : Nat → va_E) (H : Heap) (locs : List Loc) (ls : Array Slot), G3 (dC, dI) L kd tys s f0 [(0, 8), (0, 10), (0, 11), (0, 12), (7, 6), (8, 6), (8, 8), (8, 9)] [115, 138, 139] f H locs [(8, 6, q0_, .int 1201), (8, 8, q0_, .int x_334), (0, 4, a0_, .ref a_331), (0, 12, a0_, .int 0), (0, 10, a0_, .int w4_0_10_a0_), (7, 6, q1_, .int w4_7_6_q1_), (0, 8, a0_, .int w4_0_8_a0_), (0, 3, a0_, .ref g76_0_3_a0_), (0, 0, a0_, .ref q0_), (0, 2, a0_, .ref q1_)] → lv_has ls 7 [(3, .int v4_3), (6, .int v4_6), (2, .int v4_2), (5, .int v4_5), (4, .int v4_4), (0, .ref a0_), (1, .int x1_)] → W p l e ({ frames := 1, cells := 0, slots := 0, locals := 23 } : Room) s m [.ref a0_, .int x1_].toArray below meth c H locs 0 0 Q (F0 m 4 ls []) := by
                        intro n4
                        induction n4 with
                        | zero =>
                          intro v4_3 v4_6 v4_2 v4_5 v4_4 w4_0_10_a0_ w4_7_6_q1_ w4_0_8_a0_ bv4_3  bv4_2 bv4_5  bw4_0_10_a0_ bw4_7_6_q1_ bw4_0_8_a0_ hm4 f H locs ls g  hl
                          exact absurd hm4 (by have h9_v4_3 := bv4_3; unfold bd at h9_v4_3; have h9_v4_6 := bdT v4_6; unfold bd at h9_v4_6; have h9_v4_2 := bv4_2; unfold bd at h9_v4_2; have h9_v4_5 := bv4_5; unfold bd at h9_v4_5; have h9_v4_4 := bdT v4_4; unfold bd at h9_v4_4; have h9_w4_0_10_a0_ := bw4_0_10_a0_; unfold bd at h9_w4_0_10_a0_; have h9_w4_7_6_q1_ := bw4_7_6_q1_; unfold bd at h9_w4_7_6_q1_; have h9_w4_0_8_a0_ := bw4_0_8_a0_; unfold bd at h9_w4_0_8_a0_; omega)
                        | succ n4 ih4 =>
                          intro v4_3 v4_6 v4_2 v4_5 v4_4 w4_0_10_a0_ w4_7_6_q1_ w4_0_8_a0_ bv4_3  bv4_2 bv4_5  bw4_0_10_a0_ bw4_7_6_q1_ bw4_0_8_a0_ hm4 f H locs ls g  hl
                          refine lv_iload_n hx hb dX0_closeParts_4 rfl (lv_at hl 0 rfl) ?_
                          refine lv_sipush (v := 300) hx hb dX0_closeParts_5 (by decide) ?_
                          refine lv_icmp_ge (tgt := 251) hx hb dX0_closeParts_8 (by decide) (fun c_340 => ?_) (fun c_340 => ?_)
                          · have fc_340 := le_f c_340
                            have b_341 : bd 300 300 v4_3 := leR fc_340 kb_300 bv4_3 (by decide)
                            subst hQ
                            exact W.vret hx hb hr (fun t ht hW => ⟨⟨_, rfl, Or.inr (⟨x_334, h_335, w4_0_10_a0_, bw4_0_10_a0_, w4_7_6_q1_, bw4_7_6_q1_, w4_0_8_a0_, bw4_0_8_a0_, (g.fcts [0, 1, 3, 4, 5, 6] rfl)⟩), q3_of g hK ht hW⟩, g.2.2.1.F ht⟩) g.2.2.1.2.2 dX0_closeParts_251
                          · have fc_340 := nle_f c_340
                            have b_342 : bd 1 299 v4_3 := ltL fc_340 bv4_3 kb_300 (by decide)
                            refine lv_iload_n hx hb dX0_closeParts_11 rfl (lv_at hl 2 rfl) ?_
                            refine lv_if_eq (tgt := 251) hx hb dX0_closeParts_12 (by decide) (fun c_343 => ?_) (fun c_343 => ?_)
                            · have fc_343 := eq_f c_343
                              have b_344 : bd 0 0 v4_2 := eqX fc_343 bv4_2 kb_0 (by decide)
                              subst hQ
                              exact W.vret hx hb hr (fun t ht hW => ⟨⟨_, rfl, Or.inr (⟨x_334, h_335, w4_0_10_a0_, bw4_0_10_a0_, w4_7_6_q1_, bw4_7_6_q1_, w4_0_8_a0_, bw4_0_8_a0_, (g.fcts [0, 1, 3, 4, 5, 6] rfl)⟩), q3_of g hK ht hW⟩, g.2.2.1.F ht⟩) g.2.2.1.2.2 dX0_closeParts_251
                            · have fc_343 := neq_f c_343
                              have b_345 : bd 1 1 v4_2 := neX fc_343 bv4_2 kb_0 (by decide)
                              refine lv_aload_n hx hb dX0_closeParts_15 rfl (lv_at hl 5 rfl) ?_
                              refine g_getk (C := RX0) (T := TX0) (N := 14) hx hb hts (mc_ inX0) hown hK g rfl 8 (by decide) rfl (hts _ (List.mem_cons_of_mem _ t_381)) (fun _ h9 => h9) 6 rfl dX0_closeParts_16 ?_
                              refine lv_if_le (tgt := 251) hx hb dX0_closeParts_19 (by decide) (fun c_346 => ?_) (fun c_346 => ?_)
                              · have fc_346 := le_f c_346
                                have b_347 : bd 0 0 w4_0_8_a0_ := leL fc_346 bw4_0_8_a0_ kb_0 (by decide)
                                subst hQ
                                exact W.vret hx hb hr (fun t ht hW => ⟨⟨_, rfl, Or.inr (⟨x_334, h_335, w4_0_10_a0_, bw4_0_10_a0_, w4_7_6_q1_, bw4_7_6_q1_, w4_0_8_a0_, (bd_sub b_347 (by decide)), (g.fcts [0, 1, 3, 4, 5, 6] rfl)⟩), q3_of g hK ht hW⟩, g.2.2.1.F ht⟩) g.2.2.1.2.2 dX0_closeParts_251
                              · have fc_346 := nle_f c_346
                                have b_348 : bd 1 299 w4_0_8_a0_ := ltR fc_346 kb_0 bw4_0_8_a0_ (by decide)
                                refine lv_aload_n hx hb dX0_closeParts_22 rfl (lv_at hl 5 rfl) ?_
                                refine g_getk (C := RX0) (T := TX0) (N := 14) hx hb hts (mc_ inX0) hown hK g rfl 3 (by decide) rfl (hts _ (List.mem_cons_of_mem _ t_376)) (fun _ h9 => h9) 7 rfl dX0_closeParts_23 ?_
                                refine lv_aload_n hx hb dX0_closeParts_26 rfl (lv_at hl 5 rfl) ?_
                                refine g_getk (C := RX0) (T := TX0) (N := 14) hx hb hts (mc_ inX0) hown hK g rfl 8 (by decide) rfl (hts _ (List.mem_cons_of_mem _ t_381)) (fun _ h9 => h9) 6 rfl dX0_closeParts_27 ?_
                                refine lv_iconst (v := 1) hx hb dX0_closeParts_30 (by decide) ?_
                                refine lv_isub hx hb dX0_closeParts_31 ?_
                                refine lv_topi (fun y_349 ey_349 => ?_)
                                have ty_349 := sub_bd ey_349 b_348 kb_1 (by decide)
                                have b_350 : bd 0 298 y_349 := sub_rg ty_349 b_348 kb_1 (by decide)
                                refine g_iald hx hb hK g mg76_0_3_a0_ kg76_0_3_a0_ (by decide) rfl (in_bd b_350 (by decide)) dX0_closeParts_32 (fun x_351 bx_351 cx_351 => ?_)
                                refine lv_istore (lv' := [(4, .int x_351), (3, .int v4_3), (6, .int v4_6), (2, .int v4_2), (5, .int v4_5), (0, .ref a0_), (1, .int x1_)]) hx hb dX0_closeParts_33 hl (by decide) rfl (fun ls hl => ?_)
                                refine lv_iload hx hb dX0_closeParts_35 (lv_at hl 0 rfl) ?_
                                refine lv_bipush (v := 6) hx hb dX0_closeParts_37 (by decide) ?_
                                have kb_6 : bd 6 6 (6 : Int32) := ⟨by decide, by decide⟩
                                refine lv_icmp_eq (tgt := 49) hx hb dX0_closeParts_39 (by decide) (fun c_352 => ?_) (fun c_352 => ?_)
                                · have fc_352 := eq_f c_352
                                  have b_353 : bd 6 6 x_351 := eqX fc_352 (bdT x_351) kb_6 (by decide)
                                  refine lv_iconst (v := 1) hx hb dX0_closeParts_49 (by decide) ?_
                                  refine lv_goto (tgt := 54) hx hb dX0_closeParts_50 (by decide) ?_
                                  refine lv_istore (lv' := [(5, .int 1), (4, .int x_351), (3, .int v4_3), (6, .int v4_6), (2, .int v4_2), (0, .ref a0_), (1, .int x1_)]) hx hb dX0_closeParts_54 hl (by decide) rfl (fun ls hl => ?_)
                                  refine lv_iload hx hb dX0_closeParts_56 (lv_at hl 0 rfl) ?_
                                  refine lv_if_ne (tgt := 70) hx hb dX0_closeParts_58 (by decide) (fun c_ => ?_) (fun c_ => absurd c_ (by decide))
                                  refine lv_iconst (v := 1) hx hb dX0_closeParts_70 (by decide) ?_
                                  refine lv_goto (tgt := 75) hx hb dX0_closeParts_71 (by decide) ?_
                                  refine lv_istore_n (lv' := [(2, .int 1), (5, .int 1), (4, .int x_351), (3, .int v4_3), (6, .int v4_6), (0, .ref a0_), (1, .int x1_)]) hx hb dX0_closeParts_75 rfl hl (by decide) rfl (fun ls hl => ?_)
                                  refine lv_iload_n hx hb dX0_closeParts_76 rfl (lv_at hl 0 rfl) ?_
                                  refine lv_if_eq (tgt := 245) hx hb dX0_closeParts_77 (by decide) (fun c_ => absurd c_ (by decide)) (fun c_ => ?_)
                                  refine lv_aload_n hx hb dX0_closeParts_80 rfl (lv_at hl 5 rfl) ?_
                                  refine lv_dup hx hb dX0_closeParts_81 rfl ?_
                                  refine g_getk (C := RX0) (T := TX0) (N := 14) hx hb hts (mc_ inX0) hown hK g rfl 8 (by decide) rfl (hts _ (List.mem_cons_of_mem _ t_381)) (fun _ h9 => h9) 6 rfl dX0_closeParts_82 ?_
                                  refine lv_iconst (v := 1) hx hb dX0_closeParts_85 (by decide) ?_
                                  refine lv_isub hx hb dX0_closeParts_86 ?_
                                  refine lv_topi (fun y_354 ey_354 => ?_)
                                  obtain rfl : y_349 = y_354 := ey_349.trans ey_354.symm
                                  refine g_put (C := RX0) (T := TX0) (N := 14) hx hb hts (mc_ inX0) tyX0 tyX0_ok nmX0 hown hK g ma0_ ka0_ (by decide) rfl 8 (by decide) (hts _ (List.mem_cons_of_mem _ t_381)) (fun _ h9 => h9) rfl rfl (okV_i (bd_sub b_350 (by decide))) rfl rfl (by decide) (Or.inr (Or.inl (by decide))) (fx' := [(8, 6, q0_, .int 1201), (8, 8, q0_, .int x_334), (0, 4, a0_, .ref a_331), (0, 12, a0_, .int 0), (0, 10, a0_, .int w4_0_10_a0_), (7, 6, q1_, .int w4_7_6_q1_), (0, 3, a0_, .ref g76_0_3_a0_), (0, 0, a0_, .ref q0_), (0, 2, a0_, .ref q1_)]) rfl dX0_closeParts_87 (fun f H locs hM_355 g => ?_)
                                  refine lv_aload_n hx hb dX0_closeParts_90 rfl (lv_at hl 5 rfl) ?_
                                  refine g_calli (va_runV (As := []) (rest := []) ⟨hx, hb, hml, hown, hts⟩ (r_X0_takeHeight l dC dI L kd tys f H.size g.2.2.2.1 a0_ ma0_ ka0_) (cwV 0 hts (gV_ t_1199 t_1201 t_16 t_190 t_1202) rfl rfl rfl (by decide +kernel) ⟨(Nat.le_of_ble_eq_true rfl), (Nat.le_of_ble_eq_true rfl)⟩) (pre3V g hK ma0_ ka0_ (by decide) (q := (RX0, TX0, 14)) rfl) rfl rfl hl.1 rfl (lv_room (Nat.le_of_ble_eq_true rfl)) dX0_closeParts_91 ⟨(Nat.le_of_ble_eq_true rfl), (Nat.le_of_ble_eq_true rfl)⟩) g hK (by decide) (by decide) (fx' := [(0, 8, a0_, .int y_349), (8, 6, q0_, .int 1201), (8, 8, q0_, .int x_334), (0, 4, a0_, .ref a_331), (0, 12, a0_, .int 0), (7, 6, q1_, .int w4_7_6_q1_), (0, 3, a0_, .ref g76_0_3_a0_), (0, 0, a0_, .ref q0_), (0, 2, a0_, .ref q1_)]) rfl (fun r_356 fr_356 H locs hp hMr_356 g => ?_)
                                  obtain ⟨x_357, h_358, hF_359⟩ := hp
                                  have g := g.more hF_359
                                  refine lv_istore (lv' := [(6, .int r_356), (2, .int 1), (5, .int 1), (4, .int x_351), (3, .int v4_3), (0, .ref a0_), (1, .int x1_)]) hx hb dX0_closeParts_94 hl (by decide) rfl (fun ls hl => ?_)
                                  refine lv_iload hx hb dX0_closeParts_96 (lv_at hl 2 rfl) ?_
                                  refine lv_if_eq (tgt := 136) hx hb dX0_closeParts_98 (by decide) (fun c_ => absurd c_ (by decide)) (fun c_ => ?_)
                                  refine lv_aload_n hx hb dX0_closeParts_101 rfl (lv_at hl 5 rfl) ?_
                                  refine lv_dup hx hb dX0_closeParts_102 rfl ?_
                                  refine g_geti (C := RX0) (T := TX0) (N := 14) hx hb hts (mc_ inX0) hown hK g ma0_ ka0_ (by decide) rfl 11 (by decide) rfl (hts _ (List.mem_cons_of_mem _ t_384)) (fun _ h9 => h9) rfl dX0_closeParts_103 (fun x_360 bx_360 g => ?_)
                                  refine lv_iconst (v := 1) hx hb dX0_closeParts_106 (by decide) ?_
                                  refine lv_isub hx hb dX0_closeParts_107 ?_
                                  refine lv_topi (fun y_361 ey_361 => ?_)
                                  refine g_put (C := RX0) (T := TX0) (N := 14) hx hb hts (mc_ inX0) tyX0 tyX0_ok nmX0 hown hK g ma0_ ka0_ (by decide) rfl 11 (by decide) (hts _ (List.mem_cons_of_mem _ t_384)) (fun _ h9 => h9) rfl rfl (okV_i (bdT y_361)) rfl rfl (by decide) (Or.inr (Or.inl (by decide))) (fx' := [(0, 10, a0_, .int x_357), (0, 8, a0_, .int y_349), (8, 6, q0_, .int 1201), (8, 8, q0_, .int x_334), (0, 4, a0_, .ref a_331), (0, 12, a0_, .int 0), (7, 6, q1_, .int w4_7_6_q1_), (0, 3, a0_, .ref g76_0_3_a0_), (0, 0, a0_, .ref q0_), (0, 2, a0_, .ref q1_)]) rfl dX0_closeParts_108 (fun f H locs hM_362 g => ?_)
                                  refine lv_aload_n hx hb dX0_closeParts_111 rfl (lv_at hl 5 rfl) ?_
                                  refine g_getk (C := RX0) (T := TX0) (N := 14) hx hb hts (mc_ inX0) hown hK g rfl 2 (by decide) rfl (hts _ (List.mem_cons_of_mem _ t_375)) (fun _ h9 => h9) 10 rfl dX0_closeParts_112 ?_
                                  refine lv_iload hx hb dX0_closeParts_115 (lv_at hl 3 rfl) ?_
                                  refine lv_bipush (v := 6) hx hb dX0_closeParts_117 (by decide) ?_
                                  refine lv_icmp_ne (tgt := 127) hx hb dX0_closeParts_119 (by decide) (fun c_363 => ?_) (fun c_363 => ?_)
                                  · have fc_363 := neq_f c_363
                                    have b_364 : bd 7 5 x_351 := neX fc_363 b_353 kb_6 (by decide)
                                    exact bd_no b_364 (by decide)
                                  · have fc_363 := eq_f c_363
                                    refine lv_bipush (v := 6) hx hb dX0_closeParts_122 (by decide) ?_
                                    refine lv_goto (tgt := 129) hx hb dX0_closeParts_124 (by decide) ?_
                                    refine lv_iconst (v := 0) hx hb dX0_closeParts_129 (by decide) ?_
                                    refine g_callv (va_runV (As := [.int 6, .int 0]) (rest := []) ⟨hx, hb, hml, hown, hts⟩ (r_X7_emit l dC dI L kd tys f H.size g.2.2.2.1 q1_ mq1_ kq1_ 6 0) (cwV 2 hts (gV_ t_1203 t_1204 t_1205 t_191 t_1206) rfl rfl rfl (by decide +kernel) ⟨(Nat.le_of_ble_eq_true rfl), (Nat.le_of_ble_eq_true rfl)⟩) (pre3V g hK mq1_ kq1_ (by decide) (q := (RX7, TX7, 19)) rfl) rfl rfl hl.1 rfl (lv_room (Nat.le_of_ble_eq_true rfl)) dX0_closeParts_130 ⟨(Nat.le_of_ble_eq_true rfl), (Nat.le_of_ble_eq_true rfl)⟩) g hK (by decide) (by decide) (fx' := [(0, 11, a0_, .int y_361), (0, 10, a0_, .int x_357), (0, 8, a0_, .int y_349), (8, 6, q0_, .int 1201), (8, 8, q0_, .int x_334), (0, 4, a0_, .ref a_331), (0, 12, a0_, .int 0), (0, 3, a0_, .ref g76_0_3_a0_), (0, 0, a0_, .ref q0_), (0, 2, a0_, .ref q1_)]) rfl (fun fr_365 H locs hp hMr_365 g => ?_)
                                    obtain ⟨x_366, h_367, hF_368⟩ := hp
                                    have g := g.more hF_368
                                    refine lv_goto (tgt := 191) hx hb dX0_closeParts_133 (by decide) ?_
                                    refine lv_iconst (v := 1) hx hb dX0_closeParts_191 (by decide) ?_
                                    refine lv_iload hx hb dX0_closeParts_192 (lv_at hl 2 rfl) ?_
                                    refine lv_if_eq (tgt := 202) hx hb dX0_closeParts_194 (by decide) (fun c_ => absurd c_ (by decide)) (fun c_ => ?_)
                                    refine lv_iload hx hb dX0_closeParts_197 (lv_at hl 0 rfl) ?_
                                    refine lv_goto (tgt := 211) hx hb dX0_closeParts_199 (by decide) ?_
                                    refine lv_iadd hx hb dX0_closeParts_211 ?_
                                    refine lv_topi (fun y_369 ey_369 => ?_)
                                    refine lv_istore (lv' := [(6, .int y_369), (2, .int 1), (5, .int 1), (4, .int x_351), (3, .int v4_3), (0, .ref a0_), (1, .int x1_)]) hx hb dX0_closeParts_212 hl (by decide) rfl (fun ls hl => ?_)
                                    refine lv_aload_n hx hb dX0_closeParts_214 rfl (lv_at hl 5 rfl) ?_
                                    refine lv_iload hx hb dX0_closeParts_215 (lv_at hl 0 rfl) ?_
                                    refine g_callv (va_runV (As := [.int y_369]) (rest := []) ⟨hx, hb, hml, hown, hts⟩ (r_X0_addWhole l dC dI L kd tys fr_365 H.size g.2.2.2.1 a0_ ma0_ ka0_ y_369) (cwV 1 hts (gV_ t_1211 t_1213 t_17 t_190 t_1214) rfl rfl rfl (by decide +kernel) ⟨(Nat.le_of_ble_eq_true rfl), (Nat.le_of_ble_eq_true rfl)⟩) (pre3V g hK ma0_ ka0_ (by decide) (q := (RX0, TX0, 14)) rfl) rfl rfl hl.1 rfl (lv_room (Nat.le_of_ble_eq_true rfl)) dX0_closeParts_217 ⟨(Nat.le_of_ble_eq_true rfl), (Nat.le_of_ble_eq_true rfl)⟩) g hK (by decide) (by decide) (fx' := [(7, 6, q1_, .int x_366), (0, 11, a0_, .int y_361), (0, 8, a0_, .int y_349), (8, 6, q0_, .int 1201), (8, 8, q0_, .int x_334), (0, 4, a0_, .ref a_331), (0, 3, a0_, .ref g76_0_3_a0_), (0, 0, a0_, .ref q0_), (0, 2, a0_, .ref q1_)]) rfl (fun fr_370 H locs hp hMr_370 g => ?_)
                                    obtain ⟨x_371, h_372, hF_373⟩ := hp
                                    have g := g.more hF_373
                                    refine lv_iload hx hb dX0_closeParts_220 (lv_at hl 0 rfl) ?_
                                    refine lv_bipush (v := 12) hx hb dX0_closeParts_222 (by decide) ?_
                                    refine lv_icmp_le (tgt := 245) hx hb dX0_closeParts_224 (by decide) (fun c_374 => ?_) (fun c_374 => ?_)
                                    · have fc_374 := le_f c_374
                                      have b_375 : bd (-2147483648) 12 y_369 := leL fc_374 (bdT y_369) kb_12 (by decide)
                                      obtain ⟨y_376, ey_376⟩ : ∃ z : Int32, z = v4_3 + 1 := ⟨_, rfl⟩
                                      refine lv_iinc (v := y_376) (lv' := [(3, .int y_376), (6, .int y_369), (2, .int 1), (5, .int 1), (4, .int x_351), (0, .ref a0_), (1, .int x1_)]) hx hb dX0_closeParts_245 hl (k := 4) rfl (by rw [ey_376]; rfl) (by decide) rfl (fun ls hl => ?_)
                                      have ty_376 := add_bd ey_376 b_342 kb_1 (by decide)
                                      have b_377 : bd 2 300 y_376 := add_rg ty_376 b_342 kb_1 (by decide)
                                      refine lv_goto (tgt := 4) hx hb dX0_closeParts_248 (by decide) ?_
                                      have hl9 := lv_sub hl [0, 1, 2, 3, 4, 5, 6] (by rfl : lv_pick [(3, .int y_376), (6, .int y_369), (2, .int 1), (5, .int 1), (4, .int x_351), (0, .ref a0_), (1, .int x1_)] [0, 1, 2, 3, 4, 5, 6] = [(3, .int y_376), (6, .int y_369), (2, .int 1), (5, .int 1), (4, .int x_351), (0, .ref a0_), (1, .int x1_)])
                                      have g9 := g.sub (fx' := [(8, 6, q0_, .int 1201), (8, 8, q0_, .int x_334), (0, 4, a0_, .ref a_331), (0, 12, a0_, .int 0), (0, 10, a0_, .int x_371), (7, 6, q1_, .int x_366), (0, 8, a0_, .int y_349), (0, 3, a0_, .ref g76_0_3_a0_), (0, 0, a0_, .ref q0_), (0, 2, a0_, .ref q1_)]) [5, 6, 7, 0, 1, 2, 4, 8, 9, 10] rfl
                                      exact ih4  y_376 y_369 1 1 x_351 x_371 x_366 y_349 (bd_sub b_377 (by decide)) (bd_sub kb_1 (by decide)) (bd_sub kb_1 (by decide)) h_372 h_367 (bd_sub b_350 (by decide)) (by have h9_0 := b_350; unfold bd at h9_0; have h9_1 := b_353; unfold bd at h9_1; have h9_2 := b_375; unfold bd at h9_2; have h9_3 := b_377; unfold bd at h9_3; have h9_4 := bdT v4_4; unfold bd at h9_4; have h9_5 := bdT v4_6; unfold bd at h9_5; have h9_6 := bv4_2; unfold bd at h9_6; have h9_7 := bv4_3; unfold bd at h9_7; have h9_8 := bv4_5; unfold bd at h9_8; have h9_9 := bw4_0_10_a0_; unfold bd at h9_9; have h9_10 := bw4_0_8_a0_; unfold bd at h9_10; have h9_11 := bw4_7_6_q1_; unfold bd at h9_11; have h9_12 := h_367; unfold bd at h9_12; have h9_13 := h_372; unfold bd at h9_13; have h9_14 := kb_0; unfold bd at h9_14; have h9_15 := kb_1; unfold bd at h9_15; have h9_16 := kb_12; unfold bd at h9_16; have h9_17 := kb_300; unfold bd at h9_17; have h9_18 := kb_6; unfold bd at h9_18; have h9_19 := kb_7; unfold bd at h9_19; omega) _ _ _ _ g9  hl9
                                    · have fc_374 := nle_f c_374
                                      have b_378 : bd 13 2147483647 y_369 := ltR fc_374 kb_12 (bdT y_369) (by decide)
                                      refine lv_aload_n hx hb dX0_closeParts_227 rfl (lv_at hl 5 rfl) ?_
                                      refine g_getk (C := RX0) (T := TX0) (N := 14) hx hb hts (mc_ inX0) hown hK g rfl 0 (by decide) rfl (hts _ (List.mem_cons_of_mem _ t_373)) (fun _ h9 => h9) 9 rfl dX0_closeParts_228 ?_
                                      refine lv_bipush (v := 7) hx hb dX0_closeParts_231 (by decide) ?_
                                      refine lv_aload_n hx hb dX0_closeParts_233 rfl (lv_at hl 5 rfl) ?_
                                      refine g_getk (C := RX0) (T := TX0) (N := 14) hx hb hts (mc_ inX0) hown hK g rfl 4 (by decide) rfl (hts _ (List.mem_cons_of_mem _ t_377)) (fun _ h9 => h9) 7 rfl dX0_closeParts_234 ?_
                                      refine lv_aload_n hx hb dX0_closeParts_237 rfl (lv_at hl 5 rfl) ?_
                                      refine g_getk (C := RX0) (T := TX0) (N := 14) hx hb hts (mc_ inX0) hown hK g rfl 8 (by decide) rfl (hts _ (List.mem_cons_of_mem _ t_381)) (fun _ h9 => h9) 4 rfl dX0_closeParts_238 ?_
                                      refine g_iald hx hb hK g ma_331 ka_331 (by decide) rfl (in_bd b_350 (by decide)) dX0_closeParts_241 (fun x_379 bx_379 cx_379 => ?_)
                                      refine g_callv (va_runV (As := [.int 7, .int x_379]) (rest := []) ⟨hx, hb, hml, hown, hts⟩ (r_X8_fail_2 l dC dI L kd tys fr_370 H.size g.2.2.2.1 q0_ mq0_ kq0_ 7 (bd_sub kb_7 (by decide)) x_379 x_334 h_335 (g.fcts [6] rfl)) (cwV 2 hts (gV_ t_1215 t_1107 t_1108 t_184 t_1109) rfl rfl rfl (by decide +kernel) ⟨(Nat.le_of_ble_eq_true rfl), (Nat.le_of_ble_eq_true rfl)⟩) (pre3V g hK mq0_ kq0_ (by decide) (q := (RX8, TX8, 10)) rfl) rfl rfl hl.1 rfl (lv_room (Nat.le_of_ble_eq_true rfl)) dX0_closeParts_242 ⟨(Nat.le_of_ble_eq_true rfl), (Nat.le_of_ble_eq_true rfl)⟩) g hK (by decide) (by decide) (fx' := [(0, 12, a0_, .int 0), (0, 10, a0_, .int x_371), (7, 6, q1_, .int x_366), (0, 11, a0_, .int y_361), (0, 8, a0_, .int y_349), (8, 8, q0_, .int x_334), (0, 4, a0_, .ref a_331), (0, 3, a0_, .ref g76_0_3_a0_), (0, 0, a0_, .ref q0_), (0, 2, a0_, .ref q1_)]) rfl (fun fr_380 H locs hp hMr_380 g => ?_)
                                      have hF_381 := hp
                                      have g := g.more hF_381
                                      obtain ⟨y_382, ey_382⟩ : ∃ z : Int32, z = v4_3 + 1 := ⟨_, rfl⟩
                                      refine lv_iinc (v := y_382) (lv' := [(3, .int y_382), (6, .int y_369), (2, .int 1), (5, .int 1), (4, .int x_351), (0, .ref a0_), (1, .int x1_)]) hx hb dX0_closeParts_245 hl (k := 4) rfl (by rw [ey_382]; rfl) (by decide) rfl (fun ls hl => ?_)
                                      have ty_382 := add_bd ey_382 b_342 kb_1 (by decide)
                                      have b_383 : bd 2 300 y_382 := add_rg ty_382 b_342 kb_1 (by decide)
                                      refine lv_goto (tgt := 4) hx hb dX0_closeParts_248 (by decide) ?_
                                      have hl9 := lv_sub hl [0, 1, 2, 3, 4, 5, 6] (by rfl : lv_pick [(3, .int y_382), (6, .int y_369), (2, .int 1), (5, .int 1), (4, .int x_351), (0, .ref a0_), (1, .int x1_)] [0, 1, 2, 3, 4, 5, 6] = [(3, .int y_382), (6, .int y_369), (2, .int 1), (5, .int 1), (4, .int x_351), (0, .ref a0_), (1, .int x1_)])
                                      have g9 := g.sub (fx' := [(8, 6, q0_, .int 1201), (8, 8, q0_, .int x_334), (0, 4, a0_, .ref a_331), (0, 12, a0_, .int 0), (0, 10, a0_, .int x_371), (7, 6, q1_, .int x_366), (0, 8, a0_, .int y_349), (0, 3, a0_, .ref g76_0_3_a0_), (0, 0, a0_, .ref q0_), (0, 2, a0_, .ref q1_)]) [0, 6, 7, 1, 2, 3, 5, 8, 9, 10] rfl
                                      exact ih4  y_382 y_369 1 1 x_351 x_371 x_366 y_349 (bd_sub b_383 (by decide)) (bd_sub kb_1 (by decide)) (bd_sub kb_1 (by decide)) h_372 h_367 (bd_sub b_350 (by decide)) (by have h9_0 := b_350; unfold bd at h9_0; have h9_1 := b_353; unfold bd at h9_1; have h9_2 := b_378; unfold bd at h9_2; have h9_3 := b_383; unfold bd at h9_3; have h9_4 := bdT v4_4; unfold bd at h9_4; have h9_5 := bdT v4_6; unfold bd at h9_5; have h9_6 := bv4_2; unfold bd at h9_6; have h9_7 := bv4_3; unfold bd at h9_7; have h9_8 := bv4_5; unfold bd at h9_8; have h9_9 := bw4_0_10_a0_; unfold bd at h9_9; have h9_10 := bw4_0_8_a0_; unfold bd at h9_10; have h9_11 := bw4_7_6_q1_; unfold bd at h9_11; have h9_12 := h_367; unfold bd at h9_12; have h9_13 := h_372; unfold bd at h9_13; have h9_14 := kb_0; unfold bd at h9_14; have h9_15 := kb_1; unfold bd at h9_15; have h9_16 := kb_12; unfold bd at h9_16; have h9_17 := kb_300; unfold bd at h9_17; have h9_18 := kb_6; unfold bd at h9_18; have h9_19 := kb_7; unfold bd at h9_19; omega) _ _ _ _ g9  hl9
                                · have fc_352 := neq_f c_352
                                  refine lv_iload hx hb dX0_closeParts_42 (lv_at hl 0 rfl) ?_
                                  refine lv_bipush (v := 7) hx hb dX0_closeParts_44 (by decide) ?_
                                  refine lv_icmp_ne (tgt := 53) hx hb dX0_closeParts_46 (by decide) (fun c_384 => ?_) (fun c_384 => ?_)
                                  · have fc_384 := neq_f c_384
                                    refine lv_iconst (v := 0) hx hb dX0_closeParts_53 (by decide) ?_
                                    refine lv_istore (lv' := [(5, .int 0), (4, .int x_351), (3, .int v4_3), (6, .int v4_6), (2, .int v4_2), (0, .ref a0_), (1, .int x1_)]) hx hb dX0_closeParts_54 hl (by decide) rfl (fun ls hl => ?_)
                                    refine lv_iload hx hb dX0_closeParts_56 (lv_at hl 0 rfl) ?_
                                    refine lv_if_ne (tgt := 70) hx hb dX0_closeParts_58 (by decide) (fun c_ => absurd c_ (by decide)) (fun c_ => ?_)
                                    refine lv_iload hx hb dX0_closeParts_61 (lv_at hl 1 rfl) ?_
                                    refine g_calli (va_runS (As := [.int x_351]) (rest := []) ⟨hx, hb, hml, hown, hts⟩ (r_X0_levelOf l dC dI L kd tys f H.size g.2.2.2.1 x_351) (va_cwS 1 hts (gS_ t_1191 t_1192 t_190 t_1193) rfl rfl rfl (by decide +kernel) ⟨(Nat.le_of_ble_eq_true rfl), (Nat.le_of_ble_eq_true rfl)⟩) (pre3S g hK) rfl rfl hl.1 rfl (lv_room (Nat.le_of_ble_eq_true rfl)) dX0_closeParts_63 ⟨(Nat.le_of_ble_eq_true rfl), (Nat.le_of_ble_eq_true rfl)⟩) g hK (by decide) (by decide) (fx' := [(8, 6, q0_, .int 1201), (8, 8, q0_, .int x_334), (0, 4, a0_, .ref a_331), (0, 12, a0_, .int 0), (0, 10, a0_, .int w4_0_10_a0_), (7, 6, q1_, .int w4_7_6_q1_), (0, 8, a0_, .int w4_0_8_a0_), (0, 3, a0_, .ref g76_0_3_a0_), (0, 0, a0_, .ref q0_), (0, 2, a0_, .ref q1_)]) rfl (fun r_385 fr_385 H locs hp hMr_385 g => ?_)
                                    rcases hp with ⟨h_386, -⟩ | ⟨h_387, h_388, -⟩
                                    · obtain rfl : r_385 = 0 := h_386
                                      refine lv_iload_n hx hb dX0_closeParts_66 rfl (lv_at hl 6 rfl) ?_
                                      refine lv_icmp_lt (tgt := 74) hx hb dX0_closeParts_67 (by decide) (fun c_389 => ?_) (fun c_389 => ?_)
                                      · have fc_389 := lt_f c_389
                                        have b_390 : bd 1 2147483647 x1_ := ltR fc_389 kb_0 (bdT x1_) (by decide)
                                        refine lv_iconst (v := 0) hx hb dX0_closeParts_74 (by decide) ?_
                                        refine lv_istore_n (lv' := [(2, .int 0), (5, .int 0), (4, .int x_351), (3, .int v4_3), (6, .int v4_6), (0, .ref a0_), (1, .int x1_)]) hx hb dX0_closeParts_75 rfl hl (by decide) rfl (fun ls hl => ?_)
                                        refine lv_iload_n hx hb dX0_closeParts_76 rfl (lv_at hl 0 rfl) ?_
                                        refine lv_if_eq (tgt := 245) hx hb dX0_closeParts_77 (by decide) (fun c_ => ?_) (fun c_ => absurd (by decide) c_)
                                        obtain ⟨y_391, ey_391⟩ : ∃ z : Int32, z = v4_3 + 1 := ⟨_, rfl⟩
                                        refine lv_iinc (v := y_391) (lv' := [(3, .int y_391), (2, .int 0), (5, .int 0), (4, .int x_351), (6, .int v4_6), (0, .ref a0_), (1, .int x1_)]) hx hb dX0_closeParts_245 hl (k := 3) rfl (by rw [ey_391]; rfl) (by decide) rfl (fun ls hl => ?_)
                                        have ty_391 := add_bd ey_391 b_342 kb_1 (by decide)
                                        have b_392 : bd 2 300 y_391 := add_rg ty_391 b_342 kb_1 (by decide)
                                        refine lv_goto (tgt := 4) hx hb dX0_closeParts_248 (by decide) ?_
                                        have hl9 := lv_sub hl [0, 4, 1, 2, 3, 5, 6] (by rfl : lv_pick [(3, .int y_391), (2, .int 0), (5, .int 0), (4, .int x_351), (6, .int v4_6), (0, .ref a0_), (1, .int x1_)] [0, 4, 1, 2, 3, 5, 6] = [(3, .int y_391), (6, .int v4_6), (2, .int 0), (5, .int 0), (4, .int x_351), (0, .ref a0_), (1, .int x1_)])
                                        have g9 := g.sub (fx' := [(8, 6, q0_, .int 1201), (8, 8, q0_, .int x_334), (0, 4, a0_, .ref a_331), (0, 12, a0_, .int 0), (0, 10, a0_, .int w4_0_10_a0_), (7, 6, q1_, .int w4_7_6_q1_), (0, 8, a0_, .int w4_0_8_a0_), (0, 3, a0_, .ref g76_0_3_a0_), (0, 0, a0_, .ref q0_), (0, 2, a0_, .ref q1_)]) [0, 1, 2, 3, 4, 5, 6, 7, 8, 9] rfl
                                        exact ih4  y_391 v4_6 0 0 x_351 w4_0_10_a0_ w4_7_6_q1_ w4_0_8_a0_ (bd_sub b_392 (by decide)) (bd_sub kb_0 (by decide)) (bd_sub kb_0 (by decide)) bw4_0_10_a0_ bw4_7_6_q1_ (bd_sub b_348 (by decide)) (by have h9_0 := b_348; unfold bd at h9_0; have h9_1 := b_392; unfold bd at h9_1; have h9_2 := bdT v4_4; unfold bd at h9_2; have h9_3 := bdT v4_6; unfold bd at h9_3; have h9_4 := bdT x_351; unfold bd at h9_4; have h9_5 := bv4_2; unfold bd at h9_5; have h9_6 := bv4_3; unfold bd at h9_6; have h9_7 := bv4_5; unfold bd at h9_7; have h9_8 := bw4_0_10_a0_; unfold bd at h9_8; have h9_9 := bw4_0_8_a0_; unfold bd at h9_9; have h9_10 := bw4_7_6_q1_; unfold bd at h9_10; have h9_11 := kb_0; unfold bd at h9_11; have h9_12 := kb_1; unfold bd at h9_12; have h9_13 := kb_12; unfold bd at h9_13; have h9_14 := kb_300; unfold bd at h9_14; have h9_15 := kb_6; unfold bd at h9_15; have h9_16 := kb_7; unfold bd at h9_16; omega) _ _ _ _ g9  hl9
                                      · have fc_389 := nlt_f c_389
                                        have b_393 : bd (-2147483648) 0 x1_ := leL fc_389 (bdT x1_) kb_0 (by decide)
                                        refine lv_iconst (v := 1) hx hb dX0_closeParts_70 (by decide) ?_
                                        refine lv_goto (tgt := 75) hx hb dX0_closeParts_71 (by decide) ?_
                                        refine lv_istore_n (lv' := [(2, .int 1), (5, .int 0), (4, .int x_351), (3, .int v4_3), (6, .int v4_6), (0, .ref a0_), (1, .int x1_)]) hx hb dX0_closeParts_75 rfl hl (by decide) rfl (fun ls hl => ?_)
                                        refine lv_iload_n hx hb dX0_closeParts_76 rfl (lv_at hl 0 rfl) ?_
                                        refine lv_if_eq (tgt := 245) hx hb dX0_closeParts_77 (by decide) (fun c_ => absurd c_ (by decide)) (fun c_ => ?_)
                                        refine lv_aload_n hx hb dX0_closeParts_80 rfl (lv_at hl 5 rfl) ?_
                                        refine lv_dup hx hb dX0_closeParts_81 rfl ?_
                                        refine g_getk (C := RX0) (T := TX0) (N := 14) hx hb hts (mc_ inX0) hown hK g rfl 8 (by decide) rfl (hts _ (List.mem_cons_of_mem _ t_381)) (fun _ h9 => h9) 6 rfl dX0_closeParts_82 ?_
                                        refine lv_iconst (v := 1) hx hb dX0_closeParts_85 (by decide) ?_
                                        refine lv_isub hx hb dX0_closeParts_86 ?_
                                        refine lv_topi (fun y_394 ey_394 => ?_)
                                        obtain rfl : y_349 = y_394 := ey_349.trans ey_394.symm
                                        refine g_put (C := RX0) (T := TX0) (N := 14) hx hb hts (mc_ inX0) tyX0 tyX0_ok nmX0 hown hK g ma0_ ka0_ (by decide) rfl 8 (by decide) (hts _ (List.mem_cons_of_mem _ t_381)) (fun _ h9 => h9) rfl rfl (okV_i (bd_sub b_350 (by decide))) rfl rfl (by decide) (Or.inr (Or.inl (by decide))) (fx' := [(8, 6, q0_, .int 1201), (8, 8, q0_, .int x_334), (0, 4, a0_, .ref a_331), (0, 12, a0_, .int 0), (0, 10, a0_, .int w4_0_10_a0_), (7, 6, q1_, .int w4_7_6_q1_), (0, 3, a0_, .ref g76_0_3_a0_), (0, 0, a0_, .ref q0_), (0, 2, a0_, .ref q1_)]) rfl dX0_closeParts_87 (fun f H locs hM_395 g => ?_)
                                        refine lv_aload_n hx hb dX0_closeParts_90 rfl (lv_at hl 5 rfl) ?_
                                        refine g_calli (va_runV (As := []) (rest := []) ⟨hx, hb, hml, hown, hts⟩ (r_X0_takeHeight l dC dI L kd tys f H.size g.2.2.2.1 a0_ ma0_ ka0_) (cwV 0 hts (gV_ t_1199 t_1201 t_16 t_190 t_1202) rfl rfl rfl (by decide +kernel) ⟨(Nat.le_of_ble_eq_true rfl), (Nat.le_of_ble_eq_true rfl)⟩) (pre3V g hK ma0_ ka0_ (by decide) (q := (RX0, TX0, 14)) rfl) rfl rfl hl.1 rfl (lv_room (Nat.le_of_ble_eq_true rfl)) dX0_closeParts_91 ⟨(Nat.le_of_ble_eq_true rfl), (Nat.le_of_ble_eq_true rfl)⟩) g hK (by decide) (by decide) (fx' := [(0, 8, a0_, .int y_349), (8, 6, q0_, .int 1201), (8, 8, q0_, .int x_334), (0, 4, a0_, .ref a_331), (0, 12, a0_, .int 0), (7, 6, q1_, .int w4_7_6_q1_), (0, 3, a0_, .ref g76_0_3_a0_), (0, 0, a0_, .ref q0_), (0, 2, a0_, .ref q1_)]) rfl (fun r_396 fr_396 H locs hp hMr_396 g => ?_)
                                        obtain ⟨x_397, h_398, hF_399⟩ := hp
                                        have g := g.more hF_399
                                        refine lv_istore (lv' := [(6, .int r_396), (2, .int 1), (5, .int 0), (4, .int x_351), (3, .int v4_3), (0, .ref a0_), (1, .int x1_)]) hx hb dX0_closeParts_94 hl (by decide) rfl (fun ls hl => ?_)
                                        refine lv_iload hx hb dX0_closeParts_96 (lv_at hl 2 rfl) ?_
                                        refine lv_if_eq (tgt := 136) hx hb dX0_closeParts_98 (by decide) (fun c_ => ?_) (fun c_ => absurd (by decide) c_)
                                        refine lv_iload hx hb dX0_closeParts_136 (lv_at hl 3 rfl) ?_
                                        refine lv_sipush (v := 205) hx hb dX0_closeParts_138 (by decide) ?_
                                        have kb_205 : bd 205 205 (205 : Int32) := ⟨by decide, by decide⟩
                                        refine lv_icmp_eq (tgt := 152) hx hb dX0_closeParts_141 (by decide) (fun c_400 => ?_) (fun c_400 => ?_)
                                        · have fc_400 := eq_f c_400
                                          have b_401 : bd 205 205 x_351 := eqX fc_400 (bdT x_351) kb_205 (by decide)
                                          refine lv_aload_n hx hb dX0_closeParts_152 rfl (lv_at hl 5 rfl) ?_
                                          refine g_getk (C := RX0) (T := TX0) (N := 14) hx hb hts (mc_ inX0) hown hK g rfl 2 (by decide) rfl (hts _ (List.mem_cons_of_mem _ t_375)) (fun _ h9 => h9) 9 rfl dX0_closeParts_153 ?_
                                          refine lv_bipush (v := 8) hx hb dX0_closeParts_156 (by decide) ?_
                                          refine lv_iconst (v := 0) hx hb dX0_closeParts_158 (by decide) ?_
                                          refine g_callv (va_runV (As := [.int 8, .int 0]) (rest := []) ⟨hx, hb, hml, hown, hts⟩ (r_X7_emit l dC dI L kd tys fr_396 H.size g.2.2.2.1 q1_ mq1_ kq1_ 8 0) (cwV 2 hts (gV_ t_1203 t_1204 t_1205 t_191 t_1206) rfl rfl rfl (by decide +kernel) ⟨(Nat.le_of_ble_eq_true rfl), (Nat.le_of_ble_eq_true rfl)⟩) (pre3V g hK mq1_ kq1_ (by decide) (q := (RX7, TX7, 19)) rfl) rfl rfl hl.1 rfl (lv_room (Nat.le_of_ble_eq_true rfl)) dX0_closeParts_159 ⟨(Nat.le_of_ble_eq_true rfl), (Nat.le_of_ble_eq_true rfl)⟩) g hK (by decide) (by decide) (fx' := [(0, 10, a0_, .int x_397), (0, 8, a0_, .int y_349), (8, 6, q0_, .int 1201), (8, 8, q0_, .int x_334), (0, 4, a0_, .ref a_331), (0, 12, a0_, .int 0), (0, 3, a0_, .ref g76_0_3_a0_), (0, 0, a0_, .ref q0_), (0, 2, a0_, .ref q1_)]) rfl (fun fr_402 H locs hp hMr_402 g => ?_)
                                          obtain ⟨x_403, h_404, hF_405⟩ := hp
                                          have g := g.more hF_405
                                          refine lv_aload_n hx hb dX0_closeParts_162 rfl (lv_at hl 5 rfl) ?_
                                          refine g_getk (C := RX0) (T := TX0) (N := 14) hx hb hts (mc_ inX0) hown hK g rfl 2 (by decide) rfl (hts _ (List.mem_cons_of_mem _ t_375)) (fun _ h9 => h9) 9 rfl dX0_closeParts_163 ?_
                                          refine lv_aload_n hx hb dX0_closeParts_166 rfl (lv_at hl 5 rfl) ?_
                                          refine g_getr (K := 112) (C := RX0) (T := TX0) (N := 14) hx hb hts (mc_ inX0) hown hK g ma0_ ka0_ (by decide) rfl 5 (by decide) rfl (hts _ (List.mem_cons_of_mem _ t_378)) (fun _ h9 => h9) rfl dX0_closeParts_167 (fun a_406 ma_406 ka_406 g => ?_)
                                          refine lv_aload_n hx hb dX0_closeParts_170 rfl (lv_at hl 5 rfl) ?_
                                          refine g_getk (C := RX0) (T := TX0) (N := 14) hx hb hts (mc_ inX0) hown hK g rfl 8 (by decide) rfl (hts _ (List.mem_cons_of_mem _ t_381)) (fun _ h9 => h9) 3 rfl dX0_closeParts_171 ?_
                                          refine g_iald hx hb hK g ma_406 ka_406 (by decide) rfl (in_bd b_350 (by decide)) dX0_closeParts_174 (fun x_407 bx_407 cx_407 => ?_)
                                          refine g_callv (va_runV (As := [.int x_407]) (rest := []) ⟨hx, hb, hml, hown, hts⟩ (r_X7_leadHere l dC dI L kd tys fr_402 H.size g.2.2.2.1 q1_ mq1_ kq1_ x_407) (cwV 1 hts (gV_ t_1207 t_1208 t_1209 t_191 t_1210) rfl rfl rfl (by decide +kernel) ⟨(Nat.le_of_ble_eq_true rfl), (Nat.le_of_ble_eq_true rfl)⟩) (pre3V g hK mq1_ kq1_ (by decide) (q := (RX7, TX7, 19)) rfl) rfl rfl hl.1 rfl (lv_room (Nat.le_of_ble_eq_true rfl)) dX0_closeParts_175 ⟨(Nat.le_of_ble_eq_true rfl), (Nat.le_of_ble_eq_true rfl)⟩) g hK (by decide) (by decide) (fx' := [(0, 5, a0_, .ref a_406), (7, 6, q1_, .int x_403), (0, 10, a0_, .int x_397), (0, 8, a0_, .int y_349), (8, 6, q0_, .int 1201), (8, 8, q0_, .int x_334), (0, 4, a0_, .ref a_331), (0, 12, a0_, .int 0), (0, 3, a0_, .ref g76_0_3_a0_), (0, 0, a0_, .ref q0_), (0, 2, a0_, .ref q1_)]) rfl (fun fr_408 H locs hp hMr_408 g => ?_)
                                          refine lv_goto (tgt := 191) hx hb dX0_closeParts_178 (by decide) ?_
                                          refine lv_iconst (v := 1) hx hb dX0_closeParts_191 (by decide) ?_
                                          refine lv_iload hx hb dX0_closeParts_192 (lv_at hl 2 rfl) ?_
                                          refine lv_if_eq (tgt := 202) hx hb dX0_closeParts_194 (by decide) (fun c_ => ?_) (fun c_ => absurd (by decide) c_)
                                          refine lv_iload hx hb dX0_closeParts_202 (lv_at hl 0 rfl) ?_
                                          refine lv_aload_n hx hb dX0_closeParts_204 rfl (lv_at hl 5 rfl) ?_
                                          refine g_calli (va_runV (As := []) (rest := [.int r_396, .int 1]) ⟨hx, hb, hml, hown, hts⟩ (r_X0_takeHeight l dC dI L kd tys fr_408 H.size g.2.2.2.1 a0_ ma0_ ka0_) (cwV 0 hts (gV_ t_1199 t_1201 t_16 t_190 t_1202) rfl rfl rfl (by decide +kernel) ⟨(Nat.le_of_ble_eq_true rfl), (Nat.le_of_ble_eq_true rfl)⟩) (pre3V g hK ma0_ ka0_ (by decide) (q := (RX0, TX0, 14)) rfl) rfl rfl hl.1 rfl (lv_room (Nat.le_of_ble_eq_true rfl)) dX0_closeParts_205 ⟨(Nat.le_of_ble_eq_true rfl), (Nat.le_of_ble_eq_true rfl)⟩) g hK (by decide) (by decide) (fx' := [(0, 5, a0_, .ref a_406), (7, 6, q1_, .int x_403), (0, 8, a0_, .int y_349), (8, 6, q0_, .int 1201), (8, 8, q0_, .int x_334), (0, 4, a0_, .ref a_331), (0, 12, a0_, .int 0), (0, 3, a0_, .ref g76_0_3_a0_), (0, 0, a0_, .ref q0_), (0, 2, a0_, .ref q1_)]) rfl (fun r_409 fr_409 H locs hp hMr_409 g => ?_)
                                          obtain ⟨x_410, h_411, hF_412⟩ := hp
                                          have g := g.more hF_412
                                          refine va_mmax hx hb (hml.trans hl.1.symm) hown (hts _ (List.mem_cons_of_mem _ t_1194)) (hts _ (List.mem_cons_of_mem _ t_1041)) (hts _ (List.mem_cons_of_mem _ t_204)) (hts _ (List.mem_cons_of_mem _ t_1042)) (Nat.le_of_ble_eq_true rfl) (Nat.le_of_ble_eq_true rfl) (Nat.le_of_ble_eq_true rfl) (Nat.le_of_ble_eq_true rfl) dX0_closeParts_208 ?_
                                          refine lv_topi (fun y_413 ey_413 => ?_)
                                          have ty_413 : y_413.toInt = max r_396.toInt r_409.toInt := by rw [ey_413]; exact mmax_ok _ _
                                          have b_414 : bd (-2147483648) 2147483647 y_413 := max_rg ty_413 (bdT r_396) (bdT r_409) (by decide)
                                          refine lv_iadd hx hb dX0_closeParts_211 ?_
                                          refine lv_topi (fun y_415 ey_415 => ?_)
                                          refine lv_istore (lv' := [(6, .int y_415), (2, .int 1), (5, .int 0), (4, .int x_351), (3, .int v4_3), (0, .ref a0_), (1, .int x1_)]) hx hb dX0_closeParts_212 hl (by decide) rfl (fun ls hl => ?_)
                                          refine lv_aload_n hx hb dX0_closeParts_214 rfl (lv_at hl 5 rfl) ?_
                                          refine lv_iload hx hb dX0_closeParts_215 (lv_at hl 0 rfl) ?_
                                          refine g_callv (va_runV (As := [.int y_415]) (rest := []) ⟨hx, hb, hml, hown, hts⟩ (r_X0_addWhole l dC dI L kd tys fr_409 H.size g.2.2.2.1 a0_ ma0_ ka0_ y_415) (cwV 1 hts (gV_ t_1211 t_1213 t_17 t_190 t_1214) rfl rfl rfl (by decide +kernel) ⟨(Nat.le_of_ble_eq_true rfl), (Nat.le_of_ble_eq_true rfl)⟩) (pre3V g hK ma0_ ka0_ (by decide) (q := (RX0, TX0, 14)) rfl) rfl rfl hl.1 rfl (lv_room (Nat.le_of_ble_eq_true rfl)) dX0_closeParts_217 ⟨(Nat.le_of_ble_eq_true rfl), (Nat.le_of_ble_eq_true rfl)⟩) g hK (by decide) (by decide) (fx' := [(0, 5, a0_, .ref a_406), (7, 6, q1_, .int x_403), (0, 8, a0_, .int y_349), (8, 6, q0_, .int 1201), (8, 8, q0_, .int x_334), (0, 4, a0_, .ref a_331), (0, 3, a0_, .ref g76_0_3_a0_), (0, 0, a0_, .ref q0_), (0, 2, a0_, .ref q1_)]) rfl (fun fr_416 H locs hp hMr_416 g => ?_)
                                          obtain ⟨x_417, h_418, hF_419⟩ := hp
                                          have g := g.more hF_419
                                          refine lv_iload hx hb dX0_closeParts_220 (lv_at hl 0 rfl) ?_
                                          refine lv_bipush (v := 12) hx hb dX0_closeParts_222 (by decide) ?_
                                          refine lv_icmp_le (tgt := 245) hx hb dX0_closeParts_224 (by decide) (fun c_420 => ?_) (fun c_420 => ?_)
                                          · have fc_420 := le_f c_420
                                            have b_421 : bd (-2147483648) 12 y_415 := leL fc_420 (bdT y_415) kb_12 (by decide)
                                            obtain ⟨y_422, ey_422⟩ : ∃ z : Int32, z = v4_3 + 1 := ⟨_, rfl⟩
                                            refine lv_iinc (v := y_422) (lv' := [(3, .int y_422), (6, .int y_415), (2, .int 1), (5, .int 0), (4, .int x_351), (0, .ref a0_), (1, .int x1_)]) hx hb dX0_closeParts_245 hl (k := 4) rfl (by rw [ey_422]; rfl) (by decide) rfl (fun ls hl => ?_)
                                            have ty_422 := add_bd ey_422 b_342 kb_1 (by decide)
                                            have b_423 : bd 2 300 y_422 := add_rg ty_422 b_342 kb_1 (by decide)
                                            refine lv_goto (tgt := 4) hx hb dX0_closeParts_248 (by decide) ?_
                                            have hl9 := lv_sub hl [0, 1, 2, 3, 4, 5, 6] (by rfl : lv_pick [(3, .int y_422), (6, .int y_415), (2, .int 1), (5, .int 0), (4, .int x_351), (0, .ref a0_), (1, .int x1_)] [0, 1, 2, 3, 4, 5, 6] = [(3, .int y_422), (6, .int y_415), (2, .int 1), (5, .int 0), (4, .int x_351), (0, .ref a0_), (1, .int x1_)])
                                            have g9 := g.sub (fx' := [(8, 6, q0_, .int 1201), (8, 8, q0_, .int x_334), (0, 4, a0_, .ref a_331), (0, 12, a0_, .int 0), (0, 10, a0_, .int x_417), (7, 6, q1_, .int x_403), (0, 8, a0_, .int y_349), (0, 3, a0_, .ref g76_0_3_a0_), (0, 0, a0_, .ref q0_), (0, 2, a0_, .ref q1_)]) [5, 6, 7, 0, 1, 3, 4, 8, 9, 10] rfl
                                            exact ih4  y_422 y_415 1 0 x_351 x_417 x_403 y_349 (bd_sub b_423 (by decide)) (bd_sub kb_1 (by decide)) (bd_sub kb_0 (by decide)) h_418 h_404 (bd_sub b_350 (by decide)) (by have h9_0 := b_350; unfold bd at h9_0; have h9_1 := b_401; unfold bd at h9_1; have h9_2 := b_421; unfold bd at h9_2; have h9_3 := b_423; unfold bd at h9_3; have h9_4 := bdT v4_4; unfold bd at h9_4; have h9_5 := bdT v4_6; unfold bd at h9_5; have h9_6 := bv4_2; unfold bd at h9_6; have h9_7 := bv4_3; unfold bd at h9_7; have h9_8 := bv4_5; unfold bd at h9_8; have h9_9 := bw4_0_10_a0_; unfold bd at h9_9; have h9_10 := bw4_0_8_a0_; unfold bd at h9_10; have h9_11 := bw4_7_6_q1_; unfold bd at h9_11; have h9_12 := h_404; unfold bd at h9_12; have h9_13 := h_418; unfold bd at h9_13; have h9_14 := kb_0; unfold bd at h9_14; have h9_15 := kb_1; unfold bd at h9_15; have h9_16 := kb_12; unfold bd at h9_16; have h9_17 := kb_205; unfold bd at h9_17; have h9_18 := kb_300; unfold bd at h9_18; have h9_19 := kb_6; unfold bd at h9_19; have h9_20 := kb_7; unfold bd at h9_20; omega) _ _ _ _ g9  hl9
                                          · have fc_420 := nle_f c_420
                                            have b_424 : bd 13 2147483647 y_415 := ltR fc_420 kb_12 (bdT y_415) (by decide)
                                            refine lv_aload_n hx hb dX0_closeParts_227 rfl (lv_at hl 5 rfl) ?_
                                            refine g_getk (C := RX0) (T := TX0) (N := 14) hx hb hts (mc_ inX0) hown hK g rfl 0 (by decide) rfl (hts _ (List.mem_cons_of_mem _ t_373)) (fun _ h9 => h9) 9 rfl dX0_closeParts_228 ?_
                                            refine lv_bipush (v := 7) hx hb dX0_closeParts_231 (by decide) ?_
                                            refine lv_aload_n hx hb dX0_closeParts_233 rfl (lv_at hl 5 rfl) ?_
                                            refine g_getk (C := RX0) (T := TX0) (N := 14) hx hb hts (mc_ inX0) hown hK g rfl 4 (by decide) rfl (hts _ (List.mem_cons_of_mem _ t_377)) (fun _ h9 => h9) 7 rfl dX0_closeParts_234 ?_
                                            refine lv_aload_n hx hb dX0_closeParts_237 rfl (lv_at hl 5 rfl) ?_
                                            refine g_getk (C := RX0) (T := TX0) (N := 14) hx hb hts (mc_ inX0) hown hK g rfl 8 (by decide) rfl (hts _ (List.mem_cons_of_mem _ t_381)) (fun _ h9 => h9) 4 rfl dX0_closeParts_238 ?_
                                            refine g_iald hx hb hK g ma_331 ka_331 (by decide) rfl (in_bd b_350 (by decide)) dX0_closeParts_241 (fun x_425 bx_425 cx_425 => ?_)
                                            refine g_callv (va_runV (As := [.int 7, .int x_425]) (rest := []) ⟨hx, hb, hml, hown, hts⟩ (r_X8_fail_2 l dC dI L kd tys fr_416 H.size g.2.2.2.1 q0_ mq0_ kq0_ 7 (bd_sub kb_7 (by decide)) x_425 x_334 h_335 (g.fcts [6] rfl)) (cwV 2 hts (gV_ t_1215 t_1107 t_1108 t_184 t_1109) rfl rfl rfl (by decide +kernel) ⟨(Nat.le_of_ble_eq_true rfl), (Nat.le_of_ble_eq_true rfl)⟩) (pre3V g hK mq0_ kq0_ (by decide) (q := (RX8, TX8, 10)) rfl) rfl rfl hl.1 rfl (lv_room (Nat.le_of_ble_eq_true rfl)) dX0_closeParts_242 ⟨(Nat.le_of_ble_eq_true rfl), (Nat.le_of_ble_eq_true rfl)⟩) g hK (by decide) (by decide) (fx' := [(0, 12, a0_, .int 0), (0, 10, a0_, .int x_417), (0, 5, a0_, .ref a_406), (7, 6, q1_, .int x_403), (0, 8, a0_, .int y_349), (8, 8, q0_, .int x_334), (0, 4, a0_, .ref a_331), (0, 3, a0_, .ref g76_0_3_a0_), (0, 0, a0_, .ref q0_), (0, 2, a0_, .ref q1_)]) rfl (fun fr_426 H locs hp hMr_426 g => ?_)
                                            have hF_427 := hp
                                            have g := g.more hF_427
                                            obtain ⟨y_428, ey_428⟩ : ∃ z : Int32, z = v4_3 + 1 := ⟨_, rfl⟩
                                            refine lv_iinc (v := y_428) (lv' := [(3, .int y_428), (6, .int y_415), (2, .int 1), (5, .int 0), (4, .int x_351), (0, .ref a0_), (1, .int x1_)]) hx hb dX0_closeParts_245 hl (k := 4) rfl (by rw [ey_428]; rfl) (by decide) rfl (fun ls hl => ?_)
                                            have ty_428 := add_bd ey_428 b_342 kb_1 (by decide)
                                            have b_429 : bd 2 300 y_428 := add_rg ty_428 b_342 kb_1 (by decide)
                                            refine lv_goto (tgt := 4) hx hb dX0_closeParts_248 (by decide) ?_
                                            have hl9 := lv_sub hl [0, 1, 2, 3, 4, 5, 6] (by rfl : lv_pick [(3, .int y_428), (6, .int y_415), (2, .int 1), (5, .int 0), (4, .int x_351), (0, .ref a0_), (1, .int x1_)] [0, 1, 2, 3, 4, 5, 6] = [(3, .int y_428), (6, .int y_415), (2, .int 1), (5, .int 0), (4, .int x_351), (0, .ref a0_), (1, .int x1_)])
                                            have g9 := g.sub (fx' := [(8, 6, q0_, .int 1201), (8, 8, q0_, .int x_334), (0, 4, a0_, .ref a_331), (0, 12, a0_, .int 0), (0, 10, a0_, .int x_417), (7, 6, q1_, .int x_403), (0, 8, a0_, .int y_349), (0, 3, a0_, .ref g76_0_3_a0_), (0, 0, a0_, .ref q0_), (0, 2, a0_, .ref q1_)]) [0, 6, 7, 1, 2, 4, 5, 8, 9, 10] rfl
                                            exact ih4  y_428 y_415 1 0 x_351 x_417 x_403 y_349 (bd_sub b_429 (by decide)) (bd_sub kb_1 (by decide)) (bd_sub kb_0 (by decide)) h_418 h_404 (bd_sub b_350 (by decide)) (by have h9_0 := b_350; unfold bd at h9_0; have h9_1 := b_401; unfold bd at h9_1; have h9_2 := b_424; unfold bd at h9_2; have h9_3 := b_429; unfold bd at h9_3; have h9_4 := bdT v4_4; unfold bd at h9_4; have h9_5 := bdT v4_6; unfold bd at h9_5; have h9_6 := bv4_2; unfold bd at h9_6; have h9_7 := bv4_3; unfold bd at h9_7; have h9_8 := bv4_5; unfold bd at h9_8; have h9_9 := bw4_0_10_a0_; unfold bd at h9_9; have h9_10 := bw4_0_8_a0_; unfold bd at h9_10; have h9_11 := bw4_7_6_q1_; unfold bd at h9_11; have h9_12 := h_404; unfold bd at h9_12; have h9_13 := h_418; unfold bd at h9_13; have h9_14 := kb_0; unfold bd at h9_14; have h9_15 := kb_1; unfold bd at h9_15; have h9_16 := kb_12; unfold bd at h9_16; have h9_17 := kb_205; unfold bd at h9_17; have h9_18 := kb_300; unfold bd at h9_18; have h9_19 := kb_6; unfold bd at h9_19; have h9_20 := kb_7; unfold bd at h9_20; omega) _ _ _ _ g9  hl9
                                        · have fc_400 := neq_f c_400
                                          refine lv_iload hx hb dX0_closeParts_144 (lv_at hl 3 rfl) ?_
                                          refine lv_sipush (v := 206) hx hb dX0_closeParts_146 (by decide) ?_
                                          have kb_206 : bd 206 206 (206 : Int32) := ⟨by decide, by decide⟩
                                          refine lv_icmp_ne (tgt := 181) hx hb dX0_closeParts_149 (by decide) (fun c_430 => ?_) (fun c_430 => ?_)
                                          · have fc_430 := neq_f c_430
                                            refine lv_aload_n hx hb dX0_closeParts_181 rfl (lv_at hl 5 rfl) ?_
                                            refine g_getk (C := RX0) (T := TX0) (N := 14) hx hb hts (mc_ inX0) hown hK g rfl 2 (by decide) rfl (hts _ (List.mem_cons_of_mem _ t_375)) (fun _ h9 => h9) 9 rfl dX0_closeParts_182 ?_
                                            refine lv_iload hx hb dX0_closeParts_185 (lv_at hl 3 rfl) ?_
                                            refine lv_iconst (v := 0) hx hb dX0_closeParts_187 (by decide) ?_
                                            refine g_callv (va_runV (As := [.int x_351, .int 0]) (rest := []) ⟨hx, hb, hml, hown, hts⟩ (r_X7_emit l dC dI L kd tys fr_396 H.size g.2.2.2.1 q1_ mq1_ kq1_ x_351 0) (cwV 2 hts (gV_ t_1203 t_1204 t_1205 t_191 t_1206) rfl rfl rfl (by decide +kernel) ⟨(Nat.le_of_ble_eq_true rfl), (Nat.le_of_ble_eq_true rfl)⟩) (pre3V g hK mq1_ kq1_ (by decide) (q := (RX7, TX7, 19)) rfl) rfl rfl hl.1 rfl (lv_room (Nat.le_of_ble_eq_true rfl)) dX0_closeParts_188 ⟨(Nat.le_of_ble_eq_true rfl), (Nat.le_of_ble_eq_true rfl)⟩) g hK (by decide) (by decide) (fx' := [(0, 10, a0_, .int x_397), (0, 8, a0_, .int y_349), (8, 6, q0_, .int 1201), (8, 8, q0_, .int x_334), (0, 4, a0_, .ref a_331), (0, 12, a0_, .int 0), (0, 3, a0_, .ref g76_0_3_a0_), (0, 0, a0_, .ref q0_), (0, 2, a0_, .ref q1_)]) rfl (fun fr_431 H locs hp hMr_431 g => ?_)
                                            obtain ⟨x_432, h_433, hF_434⟩ := hp
                                            have g := g.more hF_434
                                            refine lv_iconst (v := 1) hx hb dX0_closeParts_191 (by decide) ?_
                                            refine lv_iload hx hb dX0_closeParts_192 (lv_at hl 2 rfl) ?_
                                            refine lv_if_eq (tgt := 202) hx hb dX0_closeParts_194 (by decide) (fun c_ => ?_) (fun c_ => absurd (by decide) c_)
                                            refine lv_iload hx hb dX0_closeParts_202 (lv_at hl 0 rfl) ?_
                                            refine lv_aload_n hx hb dX0_closeParts_204 rfl (lv_at hl 5 rfl) ?_
                                            refine g_calli (va_runV (As := []) (rest := [.int r_396, .int 1]) ⟨hx, hb, hml, hown, hts⟩ (r_X0_takeHeight l dC dI L kd tys fr_431 H.size g.2.2.2.1 a0_ ma0_ ka0_) (cwV 0 hts (gV_ t_1199 t_1201 t_16 t_190 t_1202) rfl rfl rfl (by decide +kernel) ⟨(Nat.le_of_ble_eq_true rfl), (Nat.le_of_ble_eq_true rfl)⟩) (pre3V g hK ma0_ ka0_ (by decide) (q := (RX0, TX0, 14)) rfl) rfl rfl hl.1 rfl (lv_room (Nat.le_of_ble_eq_true rfl)) dX0_closeParts_205 ⟨(Nat.le_of_ble_eq_true rfl), (Nat.le_of_ble_eq_true rfl)⟩) g hK (by decide) (by decide) (fx' := [(7, 6, q1_, .int x_432), (0, 8, a0_, .int y_349), (8, 6, q0_, .int 1201), (8, 8, q0_, .int x_334), (0, 4, a0_, .ref a_331), (0, 12, a0_, .int 0), (0, 3, a0_, .ref g76_0_3_a0_), (0, 0, a0_, .ref q0_), (0, 2, a0_, .ref q1_)]) rfl (fun r_435 fr_435 H locs hp hMr_435 g => ?_)
                                            obtain ⟨x_436, h_437, hF_438⟩ := hp
                                            have g := g.more hF_438
                                            refine va_mmax hx hb (hml.trans hl.1.symm) hown (hts _ (List.mem_cons_of_mem _ t_1194)) (hts _ (List.mem_cons_of_mem _ t_1041)) (hts _ (List.mem_cons_of_mem _ t_204)) (hts _ (List.mem_cons_of_mem _ t_1042)) (Nat.le_of_ble_eq_true rfl) (Nat.le_of_ble_eq_true rfl) (Nat.le_of_ble_eq_true rfl) (Nat.le_of_ble_eq_true rfl) dX0_closeParts_208 ?_
                                            refine lv_topi (fun y_439 ey_439 => ?_)
                                            have ty_439 : y_439.toInt = max r_396.toInt r_435.toInt := by rw [ey_439]; exact mmax_ok _ _
                                            have b_440 : bd (-2147483648) 2147483647 y_439 := max_rg ty_439 (bdT r_396) (bdT r_435) (by decide)
                                            refine lv_iadd hx hb dX0_closeParts_211 ?_
                                            refine lv_topi (fun y_441 ey_441 => ?_)
                                            refine lv_istore (lv' := [(6, .int y_441), (2, .int 1), (5, .int 0), (4, .int x_351), (3, .int v4_3), (0, .ref a0_), (1, .int x1_)]) hx hb dX0_closeParts_212 hl (by decide) rfl (fun ls hl => ?_)
                                            refine lv_aload_n hx hb dX0_closeParts_214 rfl (lv_at hl 5 rfl) ?_
                                            refine lv_iload hx hb dX0_closeParts_215 (lv_at hl 0 rfl) ?_
                                            refine g_callv (va_runV (As := [.int y_441]) (rest := []) ⟨hx, hb, hml, hown, hts⟩ (r_X0_addWhole l dC dI L kd tys fr_435 H.size g.2.2.2.1 a0_ ma0_ ka0_ y_441) (cwV 1 hts (gV_ t_1211 t_1213 t_17 t_190 t_1214) rfl rfl rfl (by decide +kernel) ⟨(Nat.le_of_ble_eq_true rfl), (Nat.le_of_ble_eq_true rfl)⟩) (pre3V g hK ma0_ ka0_ (by decide) (q := (RX0, TX0, 14)) rfl) rfl rfl hl.1 rfl (lv_room (Nat.le_of_ble_eq_true rfl)) dX0_closeParts_217 ⟨(Nat.le_of_ble_eq_true rfl), (Nat.le_of_ble_eq_true rfl)⟩) g hK (by decide) (by decide) (fx' := [(7, 6, q1_, .int x_432), (0, 8, a0_, .int y_349), (8, 6, q0_, .int 1201), (8, 8, q0_, .int x_334), (0, 4, a0_, .ref a_331), (0, 3, a0_, .ref g76_0_3_a0_), (0, 0, a0_, .ref q0_), (0, 2, a0_, .ref q1_)]) rfl (fun fr_442 H locs hp hMr_442 g => ?_)
                                            obtain ⟨x_443, h_444, hF_445⟩ := hp
                                            have g := g.more hF_445
                                            refine lv_iload hx hb dX0_closeParts_220 (lv_at hl 0 rfl) ?_
                                            refine lv_bipush (v := 12) hx hb dX0_closeParts_222 (by decide) ?_
                                            refine lv_icmp_le (tgt := 245) hx hb dX0_closeParts_224 (by decide) (fun c_446 => ?_) (fun c_446 => ?_)
                                            · have fc_446 := le_f c_446
                                              have b_447 : bd (-2147483648) 12 y_441 := leL fc_446 (bdT y_441) kb_12 (by decide)
                                              obtain ⟨y_448, ey_448⟩ : ∃ z : Int32, z = v4_3 + 1 := ⟨_, rfl⟩
                                              refine lv_iinc (v := y_448) (lv' := [(3, .int y_448), (6, .int y_441), (2, .int 1), (5, .int 0), (4, .int x_351), (0, .ref a0_), (1, .int x1_)]) hx hb dX0_closeParts_245 hl (k := 4) rfl (by rw [ey_448]; rfl) (by decide) rfl (fun ls hl => ?_)
                                              have ty_448 := add_bd ey_448 b_342 kb_1 (by decide)
                                              have b_449 : bd 2 300 y_448 := add_rg ty_448 b_342 kb_1 (by decide)
                                              refine lv_goto (tgt := 4) hx hb dX0_closeParts_248 (by decide) ?_
                                              have hl9 := lv_sub hl [0, 1, 2, 3, 4, 5, 6] (by rfl : lv_pick [(3, .int y_448), (6, .int y_441), (2, .int 1), (5, .int 0), (4, .int x_351), (0, .ref a0_), (1, .int x1_)] [0, 1, 2, 3, 4, 5, 6] = [(3, .int y_448), (6, .int y_441), (2, .int 1), (5, .int 0), (4, .int x_351), (0, .ref a0_), (1, .int x1_)])
                                              have g9 := g.sub (fx' := [(8, 6, q0_, .int 1201), (8, 8, q0_, .int x_334), (0, 4, a0_, .ref a_331), (0, 12, a0_, .int 0), (0, 10, a0_, .int x_443), (7, 6, q1_, .int x_432), (0, 8, a0_, .int y_349), (0, 3, a0_, .ref g76_0_3_a0_), (0, 0, a0_, .ref q0_), (0, 2, a0_, .ref q1_)]) [4, 5, 6, 0, 1, 2, 3, 7, 8, 9] rfl
                                              exact ih4  y_448 y_441 1 0 x_351 x_443 x_432 y_349 (bd_sub b_449 (by decide)) (bd_sub kb_1 (by decide)) (bd_sub kb_0 (by decide)) h_444 h_433 (bd_sub b_350 (by decide)) (by have h9_0 := b_350; unfold bd at h9_0; have h9_1 := b_447; unfold bd at h9_1; have h9_2 := b_449; unfold bd at h9_2; have h9_3 := bdT v4_4; unfold bd at h9_3; have h9_4 := bdT v4_6; unfold bd at h9_4; have h9_5 := bdT x_351; unfold bd at h9_5; have h9_6 := bv4_2; unfold bd at h9_6; have h9_7 := bv4_3; unfold bd at h9_7; have h9_8 := bv4_5; unfold bd at h9_8; have h9_9 := bw4_0_10_a0_; unfold bd at h9_9; have h9_10 := bw4_0_8_a0_; unfold bd at h9_10; have h9_11 := bw4_7_6_q1_; unfold bd at h9_11; have h9_12 := h_433; unfold bd at h9_12; have h9_13 := h_444; unfold bd at h9_13; have h9_14 := kb_0; unfold bd at h9_14; have h9_15 := kb_1; unfold bd at h9_15; have h9_16 := kb_12; unfold bd at h9_16; have h9_17 := kb_205; unfold bd at h9_17; have h9_18 := kb_206; unfold bd at h9_18; have h9_19 := kb_300; unfold bd at h9_19; have h9_20 := kb_6; unfold bd at h9_20; have h9_21 := kb_7; unfold bd at h9_21; omega) _ _ _ _ g9  hl9
                                            · have fc_446 := nle_f c_446
                                              have b_450 : bd 13 2147483647 y_441 := ltR fc_446 kb_12 (bdT y_441) (by decide)
                                              refine lv_aload_n hx hb dX0_closeParts_227 rfl (lv_at hl 5 rfl) ?_
                                              refine g_getk (C := RX0) (T := TX0) (N := 14) hx hb hts (mc_ inX0) hown hK g rfl 0 (by decide) rfl (hts _ (List.mem_cons_of_mem _ t_373)) (fun _ h9 => h9) 8 rfl dX0_closeParts_228 ?_
                                              refine lv_bipush (v := 7) hx hb dX0_closeParts_231 (by decide) ?_
                                              refine lv_aload_n hx hb dX0_closeParts_233 rfl (lv_at hl 5 rfl) ?_
                                              refine g_getk (C := RX0) (T := TX0) (N := 14) hx hb hts (mc_ inX0) hown hK g rfl 4 (by decide) rfl (hts _ (List.mem_cons_of_mem _ t_377)) (fun _ h9 => h9) 6 rfl dX0_closeParts_234 ?_
                                              refine lv_aload_n hx hb dX0_closeParts_237 rfl (lv_at hl 5 rfl) ?_
                                              refine g_getk (C := RX0) (T := TX0) (N := 14) hx hb hts (mc_ inX0) hown hK g rfl 8 (by decide) rfl (hts _ (List.mem_cons_of_mem _ t_381)) (fun _ h9 => h9) 3 rfl dX0_closeParts_238 ?_
                                              refine g_iald hx hb hK g ma_331 ka_331 (by decide) rfl (in_bd b_350 (by decide)) dX0_closeParts_241 (fun x_451 bx_451 cx_451 => ?_)
                                              refine g_callv (va_runV (As := [.int 7, .int x_451]) (rest := []) ⟨hx, hb, hml, hown, hts⟩ (r_X8_fail_2 l dC dI L kd tys fr_442 H.size g.2.2.2.1 q0_ mq0_ kq0_ 7 (bd_sub kb_7 (by decide)) x_451 x_334 h_335 (g.fcts [5] rfl)) (cwV 2 hts (gV_ t_1215 t_1107 t_1108 t_184 t_1109) rfl rfl rfl (by decide +kernel) ⟨(Nat.le_of_ble_eq_true rfl), (Nat.le_of_ble_eq_true rfl)⟩) (pre3V g hK mq0_ kq0_ (by decide) (q := (RX8, TX8, 10)) rfl) rfl rfl hl.1 rfl (lv_room (Nat.le_of_ble_eq_true rfl)) dX0_closeParts_242 ⟨(Nat.le_of_ble_eq_true rfl), (Nat.le_of_ble_eq_true rfl)⟩) g hK (by decide) (by decide) (fx' := [(0, 12, a0_, .int 0), (0, 10, a0_, .int x_443), (7, 6, q1_, .int x_432), (0, 8, a0_, .int y_349), (8, 8, q0_, .int x_334), (0, 4, a0_, .ref a_331), (0, 3, a0_, .ref g76_0_3_a0_), (0, 0, a0_, .ref q0_), (0, 2, a0_, .ref q1_)]) rfl (fun fr_452 H locs hp hMr_452 g => ?_)
                                              have hF_453 := hp
                                              have g := g.more hF_453
                                              obtain ⟨y_454, ey_454⟩ : ∃ z : Int32, z = v4_3 + 1 := ⟨_, rfl⟩
                                              refine lv_iinc (v := y_454) (lv' := [(3, .int y_454), (6, .int y_441), (2, .int 1), (5, .int 0), (4, .int x_351), (0, .ref a0_), (1, .int x1_)]) hx hb dX0_closeParts_245 hl (k := 4) rfl (by rw [ey_454]; rfl) (by decide) rfl (fun ls hl => ?_)
                                              have ty_454 := add_bd ey_454 b_342 kb_1 (by decide)
                                              have b_455 : bd 2 300 y_454 := add_rg ty_454 b_342 kb_1 (by decide)
                                              refine lv_goto (tgt := 4) hx hb dX0_closeParts_248 (by decide) ?_
                                              have hl9 := lv_sub hl [0, 1, 2, 3, 4, 5, 6] (by rfl : lv_pick [(3, .int y_454), (6, .int y_441), (2, .int 1), (5, .int 0), (4, .int x_351), (0, .ref a0_), (1, .int x1_)] [0, 1, 2, 3, 4, 5, 6] = [(3, .int y_454), (6, .int y_441), (2, .int 1), (5, .int 0), (4, .int x_351), (0, .ref a0_), (1, .int x1_)])
                                              have g9 := g.sub (fx' := [(8, 6, q0_, .int 1201), (8, 8, q0_, .int x_334), (0, 4, a0_, .ref a_331), (0, 12, a0_, .int 0), (0, 10, a0_, .int x_443), (7, 6, q1_, .int x_432), (0, 8, a0_, .int y_349), (0, 3, a0_, .ref g76_0_3_a0_), (0, 0, a0_, .ref q0_), (0, 2, a0_, .ref q1_)]) [0, 5, 6, 1, 2, 3, 4, 7, 8, 9] rfl
                                              exact ih4  y_454 y_441 1 0 x_351 x_443 x_432 y_349 (bd_sub b_455 (by decide)) (bd_sub kb_1 (by decide)) (bd_sub kb_0 (by decide)) h_444 h_433 (bd_sub b_350 (by decide)) (by have h9_0 := b_350; unfold bd at h9_0; have h9_1 := b_450; unfold bd at h9_1; have h9_2 := b_455; unfold bd at h9_2; have h9_3 := bdT v4_4; unfold bd at h9_3; have h9_4 := bdT v4_6; unfold bd at h9_4; have h9_5 := bdT x_351; unfold bd at h9_5; have h9_6 := bv4_2; unfold bd at h9_6; have h9_7 := bv4_3; unfold bd at h9_7; have h9_8 := bv4_5; unfold bd at h9_8; have h9_9 := bw4_0_10_a0_; unfold bd at h9_9; have h9_10 := bw4_0_8_a0_; unfold bd at h9_10; have h9_11 := bw4_7_6_q1_; unfold bd at h9_11; have h9_12 := h_433; unfold bd at h9_12; have h9_13 := h_444; unfold bd at h9_13; have h9_14 := kb_0; unfold bd at h9_14; have h9_15 := kb_1; unfold bd at h9_15; have h9_16 := kb_12; unfold bd at h9_16; have h9_17 := kb_205; unfold bd at h9_17; have h9_18 := kb_206; unfold bd at h9_18; have h9_19 := kb_300; unfold bd at h9_19; have h9_20 := kb_6; unfold bd at h9_20; have h9_21 := kb_7; unfold bd at h9_21; omega) _ _ _ _ g9  hl9
                                          · have fc_430 := eq_f c_430
                                            have b_456 : bd 206 206 x_351 := eqX fc_430 (bdT x_351) kb_206 (by decide)
                                            refine lv_aload_n hx hb dX0_closeParts_152 rfl (lv_at hl 5 rfl) ?_
                                            refine g_getk (C := RX0) (T := TX0) (N := 14) hx hb hts (mc_ inX0) hown hK g rfl 2 (by decide) rfl (hts _ (List.mem_cons_of_mem _ t_375)) (fun _ h9 => h9) 9 rfl dX0_closeParts_153 ?_
                                            refine lv_bipush (v := 8) hx hb dX0_closeParts_156 (by decide) ?_
                                            refine lv_iconst (v := 0) hx hb dX0_closeParts_158 (by decide) ?_
                                            refine g_callv (va_runV (As := [.int 8, .int 0]) (rest := []) ⟨hx, hb, hml, hown, hts⟩ (r_X7_emit l dC dI L kd tys fr_396 H.size g.2.2.2.1 q1_ mq1_ kq1_ 8 0) (cwV 2 hts (gV_ t_1203 t_1204 t_1205 t_191 t_1206) rfl rfl rfl (by decide +kernel) ⟨(Nat.le_of_ble_eq_true rfl), (Nat.le_of_ble_eq_true rfl)⟩) (pre3V g hK mq1_ kq1_ (by decide) (q := (RX7, TX7, 19)) rfl) rfl rfl hl.1 rfl (lv_room (Nat.le_of_ble_eq_true rfl)) dX0_closeParts_159 ⟨(Nat.le_of_ble_eq_true rfl), (Nat.le_of_ble_eq_true rfl)⟩) g hK (by decide) (by decide) (fx' := [(0, 10, a0_, .int x_397), (0, 8, a0_, .int y_349), (8, 6, q0_, .int 1201), (8, 8, q0_, .int x_334), (0, 4, a0_, .ref a_331), (0, 12, a0_, .int 0), (0, 3, a0_, .ref g76_0_3_a0_), (0, 0, a0_, .ref q0_), (0, 2, a0_, .ref q1_)]) rfl (fun fr_457 H locs hp hMr_457 g => ?_)
                                            obtain ⟨x_458, h_459, hF_460⟩ := hp
                                            have g := g.more hF_460
                                            refine lv_aload_n hx hb dX0_closeParts_162 rfl (lv_at hl 5 rfl) ?_
                                            refine g_getk (C := RX0) (T := TX0) (N := 14) hx hb hts (mc_ inX0) hown hK g rfl 2 (by decide) rfl (hts _ (List.mem_cons_of_mem _ t_375)) (fun _ h9 => h9) 9 rfl dX0_closeParts_163 ?_
                                            refine lv_aload_n hx hb dX0_closeParts_166 rfl (lv_at hl 5 rfl) ?_
                                            refine g_getr (K := 112) (C := RX0) (T := TX0) (N := 14) hx hb hts (mc_ inX0) hown hK g ma0_ ka0_ (by decide) rfl 5 (by decide) rfl (hts _ (List.mem_cons_of_mem _ t_378)) (fun _ h9 => h9) rfl dX0_closeParts_167 (fun a_461 ma_461 ka_461 g => ?_)
                                            refine lv_aload_n hx hb dX0_closeParts_170 rfl (lv_at hl 5 rfl) ?_
                                            refine g_getk (C := RX0) (T := TX0) (N := 14) hx hb hts (mc_ inX0) hown hK g rfl 8 (by decide) rfl (hts _ (List.mem_cons_of_mem _ t_381)) (fun _ h9 => h9) 3 rfl dX0_closeParts_171 ?_
                                            refine g_iald hx hb hK g ma_461 ka_461 (by decide) rfl (in_bd b_350 (by decide)) dX0_closeParts_174 (fun x_462 bx_462 cx_462 => ?_)
                                            refine g_callv (va_runV (As := [.int x_462]) (rest := []) ⟨hx, hb, hml, hown, hts⟩ (r_X7_leadHere l dC dI L kd tys fr_457 H.size g.2.2.2.1 q1_ mq1_ kq1_ x_462) (cwV 1 hts (gV_ t_1207 t_1208 t_1209 t_191 t_1210) rfl rfl rfl (by decide +kernel) ⟨(Nat.le_of_ble_eq_true rfl), (Nat.le_of_ble_eq_true rfl)⟩) (pre3V g hK mq1_ kq1_ (by decide) (q := (RX7, TX7, 19)) rfl) rfl rfl hl.1 rfl (lv_room (Nat.le_of_ble_eq_true rfl)) dX0_closeParts_175 ⟨(Nat.le_of_ble_eq_true rfl), (Nat.le_of_ble_eq_true rfl)⟩) g hK (by decide) (by decide) (fx' := [(0, 5, a0_, .ref a_461), (7, 6, q1_, .int x_458), (0, 10, a0_, .int x_397), (0, 8, a0_, .int y_349), (8, 6, q0_, .int 1201), (8, 8, q0_, .int x_334), (0, 4, a0_, .ref a_331), (0, 12, a0_, .int 0), (0, 3, a0_, .ref g76_0_3_a0_), (0, 0, a0_, .ref q0_), (0, 2, a0_, .ref q1_)]) rfl (fun fr_463 H locs hp hMr_463 g => ?_)
                                            refine lv_goto (tgt := 191) hx hb dX0_closeParts_178 (by decide) ?_
                                            refine lv_iconst (v := 1) hx hb dX0_closeParts_191 (by decide) ?_
                                            refine lv_iload hx hb dX0_closeParts_192 (lv_at hl 2 rfl) ?_
                                            refine lv_if_eq (tgt := 202) hx hb dX0_closeParts_194 (by decide) (fun c_ => ?_) (fun c_ => absurd (by decide) c_)
                                            refine lv_iload hx hb dX0_closeParts_202 (lv_at hl 0 rfl) ?_
                                            refine lv_aload_n hx hb dX0_closeParts_204 rfl (lv_at hl 5 rfl) ?_
                                            refine g_calli (va_runV (As := []) (rest := [.int r_396, .int 1]) ⟨hx, hb, hml, hown, hts⟩ (r_X0_takeHeight l dC dI L kd tys fr_463 H.size g.2.2.2.1 a0_ ma0_ ka0_) (cwV 0 hts (gV_ t_1199 t_1201 t_16 t_190 t_1202) rfl rfl rfl (by decide +kernel) ⟨(Nat.le_of_ble_eq_true rfl), (Nat.le_of_ble_eq_true rfl)⟩) (pre3V g hK ma0_ ka0_ (by decide) (q := (RX0, TX0, 14)) rfl) rfl rfl hl.1 rfl (lv_room (Nat.le_of_ble_eq_true rfl)) dX0_closeParts_205 ⟨(Nat.le_of_ble_eq_true rfl), (Nat.le_of_ble_eq_true rfl)⟩) g hK (by decide) (by decide) (fx' := [(0, 5, a0_, .ref a_461), (7, 6, q1_, .int x_458), (0, 8, a0_, .int y_349), (8, 6, q0_, .int 1201), (8, 8, q0_, .int x_334), (0, 4, a0_, .ref a_331), (0, 12, a0_, .int 0), (0, 3, a0_, .ref g76_0_3_a0_), (0, 0, a0_, .ref q0_), (0, 2, a0_, .ref q1_)]) rfl (fun r_464 fr_464 H locs hp hMr_464 g => ?_)
                                            obtain ⟨x_465, h_466, hF_467⟩ := hp
                                            have g := g.more hF_467
                                            refine va_mmax hx hb (hml.trans hl.1.symm) hown (hts _ (List.mem_cons_of_mem _ t_1194)) (hts _ (List.mem_cons_of_mem _ t_1041)) (hts _ (List.mem_cons_of_mem _ t_204)) (hts _ (List.mem_cons_of_mem _ t_1042)) (Nat.le_of_ble_eq_true rfl) (Nat.le_of_ble_eq_true rfl) (Nat.le_of_ble_eq_true rfl) (Nat.le_of_ble_eq_true rfl) dX0_closeParts_208 ?_
                                            refine lv_topi (fun y_468 ey_468 => ?_)
                                            have ty_468 : y_468.toInt = max r_396.toInt r_464.toInt := by rw [ey_468]; exact mmax_ok _ _
                                            have b_469 : bd (-2147483648) 2147483647 y_468 := max_rg ty_468 (bdT r_396) (bdT r_464) (by decide)
                                            refine lv_iadd hx hb dX0_closeParts_211 ?_
                                            refine lv_topi (fun y_470 ey_470 => ?_)
                                            refine lv_istore (lv' := [(6, .int y_470), (2, .int 1), (5, .int 0), (4, .int x_351), (3, .int v4_3), (0, .ref a0_), (1, .int x1_)]) hx hb dX0_closeParts_212 hl (by decide) rfl (fun ls hl => ?_)
                                            refine lv_aload_n hx hb dX0_closeParts_214 rfl (lv_at hl 5 rfl) ?_
                                            refine lv_iload hx hb dX0_closeParts_215 (lv_at hl 0 rfl) ?_
                                            refine g_callv (va_runV (As := [.int y_470]) (rest := []) ⟨hx, hb, hml, hown, hts⟩ (r_X0_addWhole l dC dI L kd tys fr_464 H.size g.2.2.2.1 a0_ ma0_ ka0_ y_470) (cwV 1 hts (gV_ t_1211 t_1213 t_17 t_190 t_1214) rfl rfl rfl (by decide +kernel) ⟨(Nat.le_of_ble_eq_true rfl), (Nat.le_of_ble_eq_true rfl)⟩) (pre3V g hK ma0_ ka0_ (by decide) (q := (RX0, TX0, 14)) rfl) rfl rfl hl.1 rfl (lv_room (Nat.le_of_ble_eq_true rfl)) dX0_closeParts_217 ⟨(Nat.le_of_ble_eq_true rfl), (Nat.le_of_ble_eq_true rfl)⟩) g hK (by decide) (by decide) (fx' := [(0, 5, a0_, .ref a_461), (7, 6, q1_, .int x_458), (0, 8, a0_, .int y_349), (8, 6, q0_, .int 1201), (8, 8, q0_, .int x_334), (0, 4, a0_, .ref a_331), (0, 3, a0_, .ref g76_0_3_a0_), (0, 0, a0_, .ref q0_), (0, 2, a0_, .ref q1_)]) rfl (fun fr_471 H locs hp hMr_471 g => ?_)
                                            obtain ⟨x_472, h_473, hF_474⟩ := hp
                                            have g := g.more hF_474
                                            refine lv_iload hx hb dX0_closeParts_220 (lv_at hl 0 rfl) ?_
                                            refine lv_bipush (v := 12) hx hb dX0_closeParts_222 (by decide) ?_
                                            refine lv_icmp_le (tgt := 245) hx hb dX0_closeParts_224 (by decide) (fun c_475 => ?_) (fun c_475 => ?_)
                                            · have fc_475 := le_f c_475
                                              have b_476 : bd (-2147483648) 12 y_470 := leL fc_475 (bdT y_470) kb_12 (by decide)
                                              obtain ⟨y_477, ey_477⟩ : ∃ z : Int32, z = v4_3 + 1 := ⟨_, rfl⟩
                                              refine lv_iinc (v := y_477) (lv' := [(3, .int y_477), (6, .int y_470), (2, .int 1), (5, .int 0), (4, .int x_351), (0, .ref a0_), (1, .int x1_)]) hx hb dX0_closeParts_245 hl (k := 4) rfl (by rw [ey_477]; rfl) (by decide) rfl (fun ls hl => ?_)
                                              have ty_477 := add_bd ey_477 b_342 kb_1 (by decide)
                                              have b_478 : bd 2 300 y_477 := add_rg ty_477 b_342 kb_1 (by decide)
                                              refine lv_goto (tgt := 4) hx hb dX0_closeParts_248 (by decide) ?_
                                              have hl9 := lv_sub hl [0, 1, 2, 3, 4, 5, 6] (by rfl : lv_pick [(3, .int y_477), (6, .int y_470), (2, .int 1), (5, .int 0), (4, .int x_351), (0, .ref a0_), (1, .int x1_)] [0, 1, 2, 3, 4, 5, 6] = [(3, .int y_477), (6, .int y_470), (2, .int 1), (5, .int 0), (4, .int x_351), (0, .ref a0_), (1, .int x1_)])
                                              have g9 := g.sub (fx' := [(8, 6, q0_, .int 1201), (8, 8, q0_, .int x_334), (0, 4, a0_, .ref a_331), (0, 12, a0_, .int 0), (0, 10, a0_, .int x_472), (7, 6, q1_, .int x_458), (0, 8, a0_, .int y_349), (0, 3, a0_, .ref g76_0_3_a0_), (0, 0, a0_, .ref q0_), (0, 2, a0_, .ref q1_)]) [5, 6, 7, 0, 1, 3, 4, 8, 9, 10] rfl
                                              exact ih4  y_477 y_470 1 0 x_351 x_472 x_458 y_349 (bd_sub b_478 (by decide)) (bd_sub kb_1 (by decide)) (bd_sub kb_0 (by decide)) h_473 h_459 (bd_sub b_350 (by decide)) (by have h9_0 := b_350; unfold bd at h9_0; have h9_1 := b_456; unfold bd at h9_1; have h9_2 := b_476; unfold bd at h9_2; have h9_3 := b_478; unfold bd at h9_3; have h9_4 := bdT v4_4; unfold bd at h9_4; have h9_5 := bdT v4_6; unfold bd at h9_5; have h9_6 := bv4_2; unfold bd at h9_6; have h9_7 := bv4_3; unfold bd at h9_7; have h9_8 := bv4_5; unfold bd at h9_8; have h9_9 := bw4_0_10_a0_; unfold bd at h9_9; have h9_10 := bw4_0_8_a0_; unfold bd at h9_10; have h9_11 := bw4_7_6_q1_; unfold bd at h9_11; have h9_12 := h_459; unfold bd at h9_12; have h9_13 := h_473; unfold bd at h9_13; have h9_14 := kb_0; unfold bd at h9_14; have h9_15 := kb_1; unfold bd at h9_15; have h9_16 := kb_12; unfold bd at h9_16; have h9_17 := kb_205; unfold bd at h9_17; have h9_18 := kb_206; unfold bd at h9_18; have h9_19 := kb_300; unfold bd at h9_19; have h9_20 := kb_6; unfold bd at h9_20; have h9_21 := kb_7; unfold bd at h9_21; omega) _ _ _ _ g9  hl9
                                            · have fc_475 := nle_f c_475
                                              have b_479 : bd 13 2147483647 y_470 := ltR fc_475 kb_12 (bdT y_470) (by decide)
                                              refine lv_aload_n hx hb dX0_closeParts_227 rfl (lv_at hl 5 rfl) ?_
                                              refine g_getk (C := RX0) (T := TX0) (N := 14) hx hb hts (mc_ inX0) hown hK g rfl 0 (by decide) rfl (hts _ (List.mem_cons_of_mem _ t_373)) (fun _ h9 => h9) 9 rfl dX0_closeParts_228 ?_
                                              refine lv_bipush (v := 7) hx hb dX0_closeParts_231 (by decide) ?_
                                              refine lv_aload_n hx hb dX0_closeParts_233 rfl (lv_at hl 5 rfl) ?_
                                              refine g_getk (C := RX0) (T := TX0) (N := 14) hx hb hts (mc_ inX0) hown hK g rfl 4 (by decide) rfl (hts _ (List.mem_cons_of_mem _ t_377)) (fun _ h9 => h9) 7 rfl dX0_closeParts_234 ?_
                                              refine lv_aload_n hx hb dX0_closeParts_237 rfl (lv_at hl 5 rfl) ?_
                                              refine g_getk (C := RX0) (T := TX0) (N := 14) hx hb hts (mc_ inX0) hown hK g rfl 8 (by decide) rfl (hts _ (List.mem_cons_of_mem _ t_381)) (fun _ h9 => h9) 4 rfl dX0_closeParts_238 ?_
                                              refine g_iald hx hb hK g ma_331 ka_331 (by decide) rfl (in_bd b_350 (by decide)) dX0_closeParts_241 (fun x_480 bx_480 cx_480 => ?_)
                                              refine g_callv (va_runV (As := [.int 7, .int x_480]) (rest := []) ⟨hx, hb, hml, hown, hts⟩ (r_X8_fail_2 l dC dI L kd tys fr_471 H.size g.2.2.2.1 q0_ mq0_ kq0_ 7 (bd_sub kb_7 (by decide)) x_480 x_334 h_335 (g.fcts [6] rfl)) (cwV 2 hts (gV_ t_1215 t_1107 t_1108 t_184 t_1109) rfl rfl rfl (by decide +kernel) ⟨(Nat.le_of_ble_eq_true rfl), (Nat.le_of_ble_eq_true rfl)⟩) (pre3V g hK mq0_ kq0_ (by decide) (q := (RX8, TX8, 10)) rfl) rfl rfl hl.1 rfl (lv_room (Nat.le_of_ble_eq_true rfl)) dX0_closeParts_242 ⟨(Nat.le_of_ble_eq_true rfl), (Nat.le_of_ble_eq_true rfl)⟩) g hK (by decide) (by decide) (fx' := [(0, 12, a0_, .int 0), (0, 10, a0_, .int x_472), (0, 5, a0_, .ref a_461), (7, 6, q1_, .int x_458), (0, 8, a0_, .int y_349), (8, 8, q0_, .int x_334), (0, 4, a0_, .ref a_331), (0, 3, a0_, .ref g76_0_3_a0_), (0, 0, a0_, .ref q0_), (0, 2, a0_, .ref q1_)]) rfl (fun fr_481 H locs hp hMr_481 g => ?_)
                                              have hF_482 := hp
                                              have g := g.more hF_482
                                              obtain ⟨y_483, ey_483⟩ : ∃ z : Int32, z = v4_3 + 1 := ⟨_, rfl⟩
                                              refine lv_iinc (v := y_483) (lv' := [(3, .int y_483), (6, .int y_470), (2, .int 1), (5, .int 0), (4, .int x_351), (0, .ref a0_), (1, .int x1_)]) hx hb dX0_closeParts_245 hl (k := 4) rfl (by rw [ey_483]; rfl) (by decide) rfl (fun ls hl => ?_)
                                              have ty_483 := add_bd ey_483 b_342 kb_1 (by decide)
                                              have b_484 : bd 2 300 y_483 := add_rg ty_483 b_342 kb_1 (by decide)
                                              refine lv_goto (tgt := 4) hx hb dX0_closeParts_248 (by decide) ?_
                                              have hl9 := lv_sub hl [0, 1, 2, 3, 4, 5, 6] (by rfl : lv_pick [(3, .int y_483), (6, .int y_470), (2, .int 1), (5, .int 0), (4, .int x_351), (0, .ref a0_), (1, .int x1_)] [0, 1, 2, 3, 4, 5, 6] = [(3, .int y_483), (6, .int y_470), (2, .int 1), (5, .int 0), (4, .int x_351), (0, .ref a0_), (1, .int x1_)])
                                              have g9 := g.sub (fx' := [(8, 6, q0_, .int 1201), (8, 8, q0_, .int x_334), (0, 4, a0_, .ref a_331), (0, 12, a0_, .int 0), (0, 10, a0_, .int x_472), (7, 6, q1_, .int x_458), (0, 8, a0_, .int y_349), (0, 3, a0_, .ref g76_0_3_a0_), (0, 0, a0_, .ref q0_), (0, 2, a0_, .ref q1_)]) [0, 6, 7, 1, 2, 4, 5, 8, 9, 10] rfl
                                              exact ih4  y_483 y_470 1 0 x_351 x_472 x_458 y_349 (bd_sub b_484 (by decide)) (bd_sub kb_1 (by decide)) (bd_sub kb_0 (by decide)) h_473 h_459 (bd_sub b_350 (by decide)) (by have h9_0 := b_350; unfold bd at h9_0; have h9_1 := b_456; unfold bd at h9_1; have h9_2 := b_479; unfold bd at h9_2; have h9_3 := b_484; unfold bd at h9_3; have h9_4 := bdT v4_4; unfold bd at h9_4; have h9_5 := bdT v4_6; unfold bd at h9_5; have h9_6 := bv4_2; unfold bd at h9_6; have h9_7 := bv4_3; unfold bd at h9_7; have h9_8 := bv4_5; unfold bd at h9_8; have h9_9 := bw4_0_10_a0_; unfold bd at h9_9; have h9_10 := bw4_0_8_a0_; unfold bd at h9_10; have h9_11 := bw4_7_6_q1_; unfold bd at h9_11; have h9_12 := h_459; unfold bd at h9_12; have h9_13 := h_473; unfold bd at h9_13; have h9_14 := kb_0; unfold bd at h9_14; have h9_15 := kb_1; unfold bd at h9_15; have h9_16 := kb_12; unfold bd at h9_16; have h9_17 := kb_205; unfold bd at h9_17; have h9_18 := kb_206; unfold bd at h9_18; have h9_19 := kb_300; unfold bd at h9_19; have h9_20 := kb_6; unfold bd at h9_20; have h9_21 := kb_7; unfold bd at h9_21; omega) _ _ _ _ g9  hl9
                                    · have b_485 : bd 37 206 x_351 := eqX rfl (bdT x_351) h_388 (by decide)
                                      refine lv_iload_n hx hb dX0_closeParts_66 rfl (lv_at hl 6 rfl) ?_
                                      refine lv_icmp_lt (tgt := 74) hx hb dX0_closeParts_67 (by decide) (fun c_486 => ?_) (fun c_486 => ?_)
                                      · have fc_486 := lt_f c_486
                                        have b_487 : bd 2 2147483647 x1_ := ltR fc_486 h_387 (bdT x1_) (by decide)
                                        refine lv_iconst (v := 0) hx hb dX0_closeParts_74 (by decide) ?_
                                        refine lv_istore_n (lv' := [(2, .int 0), (5, .int 0), (4, .int x_351), (3, .int v4_3), (6, .int v4_6), (0, .ref a0_), (1, .int x1_)]) hx hb dX0_closeParts_75 rfl hl (by decide) rfl (fun ls hl => ?_)
                                        refine lv_iload_n hx hb dX0_closeParts_76 rfl (lv_at hl 0 rfl) ?_
                                        refine lv_if_eq (tgt := 245) hx hb dX0_closeParts_77 (by decide) (fun c_ => ?_) (fun c_ => absurd (by decide) c_)
                                        obtain ⟨y_488, ey_488⟩ : ∃ z : Int32, z = v4_3 + 1 := ⟨_, rfl⟩
                                        refine lv_iinc (v := y_488) (lv' := [(3, .int y_488), (2, .int 0), (5, .int 0), (4, .int x_351), (6, .int v4_6), (0, .ref a0_), (1, .int x1_)]) hx hb dX0_closeParts_245 hl (k := 3) rfl (by rw [ey_488]; rfl) (by decide) rfl (fun ls hl => ?_)
                                        have ty_488 := add_bd ey_488 b_342 kb_1 (by decide)
                                        have b_489 : bd 2 300 y_488 := add_rg ty_488 b_342 kb_1 (by decide)
                                        refine lv_goto (tgt := 4) hx hb dX0_closeParts_248 (by decide) ?_
                                        have hl9 := lv_sub hl [0, 4, 1, 2, 3, 5, 6] (by rfl : lv_pick [(3, .int y_488), (2, .int 0), (5, .int 0), (4, .int x_351), (6, .int v4_6), (0, .ref a0_), (1, .int x1_)] [0, 4, 1, 2, 3, 5, 6] = [(3, .int y_488), (6, .int v4_6), (2, .int 0), (5, .int 0), (4, .int x_351), (0, .ref a0_), (1, .int x1_)])
                                        have g9 := g.sub (fx' := [(8, 6, q0_, .int 1201), (8, 8, q0_, .int x_334), (0, 4, a0_, .ref a_331), (0, 12, a0_, .int 0), (0, 10, a0_, .int w4_0_10_a0_), (7, 6, q1_, .int w4_7_6_q1_), (0, 8, a0_, .int w4_0_8_a0_), (0, 3, a0_, .ref g76_0_3_a0_), (0, 0, a0_, .ref q0_), (0, 2, a0_, .ref q1_)]) [0, 1, 2, 3, 4, 5, 6, 7, 8, 9] rfl
                                        exact ih4  y_488 v4_6 0 0 x_351 w4_0_10_a0_ w4_7_6_q1_ w4_0_8_a0_ (bd_sub b_489 (by decide)) (bd_sub kb_0 (by decide)) (bd_sub kb_0 (by decide)) bw4_0_10_a0_ bw4_7_6_q1_ (bd_sub b_348 (by decide)) (by have h9_0 := b_348; unfold bd at h9_0; have h9_1 := b_485; unfold bd at h9_1; have h9_2 := b_489; unfold bd at h9_2; have h9_3 := bdT v4_4; unfold bd at h9_3; have h9_4 := bdT v4_6; unfold bd at h9_4; have h9_5 := bv4_2; unfold bd at h9_5; have h9_6 := bv4_3; unfold bd at h9_6; have h9_7 := bv4_5; unfold bd at h9_7; have h9_8 := bw4_0_10_a0_; unfold bd at h9_8; have h9_9 := bw4_0_8_a0_; unfold bd at h9_9; have h9_10 := bw4_7_6_q1_; unfold bd at h9_10; have h9_11 := kb_0; unfold bd at h9_11; have h9_12 := kb_1; unfold bd at h9_12; have h9_13 := kb_12; unfold bd at h9_13; have h9_14 := kb_300; unfold bd at h9_14; have h9_15 := kb_6; unfold bd at h9_15; have h9_16 := kb_7; unfold bd at h9_16; omega) _ _ _ _ g9  hl9
                                      · have fc_486 := nlt_f c_486
                                        have b_490 : bd (-2147483648) 5 x1_ := leL fc_486 (bdT x1_) h_387 (by decide)
                                        refine lv_iconst (v := 1) hx hb dX0_closeParts_70 (by decide) ?_
                                        refine lv_goto (tgt := 75) hx hb dX0_closeParts_71 (by decide) ?_
                                        refine lv_istore_n (lv' := [(2, .int 1), (5, .int 0), (4, .int x_351), (3, .int v4_3), (6, .int v4_6), (0, .ref a0_), (1, .int x1_)]) hx hb dX0_closeParts_75 rfl hl (by decide) rfl (fun ls hl => ?_)
                                        refine lv_iload_n hx hb dX0_closeParts_76 rfl (lv_at hl 0 rfl) ?_
                                        refine lv_if_eq (tgt := 245) hx hb dX0_closeParts_77 (by decide) (fun c_ => absurd c_ (by decide)) (fun c_ => ?_)
                                        refine lv_aload_n hx hb dX0_closeParts_80 rfl (lv_at hl 5 rfl) ?_
                                        refine lv_dup hx hb dX0_closeParts_81 rfl ?_
                                        refine g_getk (C := RX0) (T := TX0) (N := 14) hx hb hts (mc_ inX0) hown hK g rfl 8 (by decide) rfl (hts _ (List.mem_cons_of_mem _ t_381)) (fun _ h9 => h9) 6 rfl dX0_closeParts_82 ?_
                                        refine lv_iconst (v := 1) hx hb dX0_closeParts_85 (by decide) ?_
                                        refine lv_isub hx hb dX0_closeParts_86 ?_
                                        refine lv_topi (fun y_491 ey_491 => ?_)
                                        obtain rfl : y_349 = y_491 := ey_349.trans ey_491.symm
                                        refine g_put (C := RX0) (T := TX0) (N := 14) hx hb hts (mc_ inX0) tyX0 tyX0_ok nmX0 hown hK g ma0_ ka0_ (by decide) rfl 8 (by decide) (hts _ (List.mem_cons_of_mem _ t_381)) (fun _ h9 => h9) rfl rfl (okV_i (bd_sub b_350 (by decide))) rfl rfl (by decide) (Or.inr (Or.inl (by decide))) (fx' := [(8, 6, q0_, .int 1201), (8, 8, q0_, .int x_334), (0, 4, a0_, .ref a_331), (0, 12, a0_, .int 0), (0, 10, a0_, .int w4_0_10_a0_), (7, 6, q1_, .int w4_7_6_q1_), (0, 3, a0_, .ref g76_0_3_a0_), (0, 0, a0_, .ref q0_), (0, 2, a0_, .ref q1_)]) rfl dX0_closeParts_87 (fun f H locs hM_492 g => ?_)
                                        refine lv_aload_n hx hb dX0_closeParts_90 rfl (lv_at hl 5 rfl) ?_
                                        refine g_calli (va_runV (As := []) (rest := []) ⟨hx, hb, hml, hown, hts⟩ (r_X0_takeHeight l dC dI L kd tys f H.size g.2.2.2.1 a0_ ma0_ ka0_) (cwV 0 hts (gV_ t_1199 t_1201 t_16 t_190 t_1202) rfl rfl rfl (by decide +kernel) ⟨(Nat.le_of_ble_eq_true rfl), (Nat.le_of_ble_eq_true rfl)⟩) (pre3V g hK ma0_ ka0_ (by decide) (q := (RX0, TX0, 14)) rfl) rfl rfl hl.1 rfl (lv_room (Nat.le_of_ble_eq_true rfl)) dX0_closeParts_91 ⟨(Nat.le_of_ble_eq_true rfl), (Nat.le_of_ble_eq_true rfl)⟩) g hK (by decide) (by decide) (fx' := [(0, 8, a0_, .int y_349), (8, 6, q0_, .int 1201), (8, 8, q0_, .int x_334), (0, 4, a0_, .ref a_331), (0, 12, a0_, .int 0), (7, 6, q1_, .int w4_7_6_q1_), (0, 3, a0_, .ref g76_0_3_a0_), (0, 0, a0_, .ref q0_), (0, 2, a0_, .ref q1_)]) rfl (fun r_493 fr_493 H locs hp hMr_493 g => ?_)
                                        obtain ⟨x_494, h_495, hF_496⟩ := hp
                                        have g := g.more hF_496
                                        refine lv_istore (lv' := [(6, .int r_493), (2, .int 1), (5, .int 0), (4, .int x_351), (3, .int v4_3), (0, .ref a0_), (1, .int x1_)]) hx hb dX0_closeParts_94 hl (by decide) rfl (fun ls hl => ?_)
                                        refine lv_iload hx hb dX0_closeParts_96 (lv_at hl 2 rfl) ?_
                                        refine lv_if_eq (tgt := 136) hx hb dX0_closeParts_98 (by decide) (fun c_ => ?_) (fun c_ => absurd (by decide) c_)
                                        refine lv_iload hx hb dX0_closeParts_136 (lv_at hl 3 rfl) ?_
                                        refine lv_sipush (v := 205) hx hb dX0_closeParts_138 (by decide) ?_
                                        have kb_205 : bd 205 205 (205 : Int32) := ⟨by decide, by decide⟩
                                        refine lv_icmp_eq (tgt := 152) hx hb dX0_closeParts_141 (by decide) (fun c_497 => ?_) (fun c_497 => ?_)
                                        · have fc_497 := eq_f c_497
                                          have b_498 : bd 205 205 x_351 := eqX fc_497 b_485 kb_205 (by decide)
                                          refine lv_aload_n hx hb dX0_closeParts_152 rfl (lv_at hl 5 rfl) ?_
                                          refine g_getk (C := RX0) (T := TX0) (N := 14) hx hb hts (mc_ inX0) hown hK g rfl 2 (by decide) rfl (hts _ (List.mem_cons_of_mem _ t_375)) (fun _ h9 => h9) 9 rfl dX0_closeParts_153 ?_
                                          refine lv_bipush (v := 8) hx hb dX0_closeParts_156 (by decide) ?_
                                          refine lv_iconst (v := 0) hx hb dX0_closeParts_158 (by decide) ?_
                                          refine g_callv (va_runV (As := [.int 8, .int 0]) (rest := []) ⟨hx, hb, hml, hown, hts⟩ (r_X7_emit l dC dI L kd tys fr_493 H.size g.2.2.2.1 q1_ mq1_ kq1_ 8 0) (cwV 2 hts (gV_ t_1203 t_1204 t_1205 t_191 t_1206) rfl rfl rfl (by decide +kernel) ⟨(Nat.le_of_ble_eq_true rfl), (Nat.le_of_ble_eq_true rfl)⟩) (pre3V g hK mq1_ kq1_ (by decide) (q := (RX7, TX7, 19)) rfl) rfl rfl hl.1 rfl (lv_room (Nat.le_of_ble_eq_true rfl)) dX0_closeParts_159 ⟨(Nat.le_of_ble_eq_true rfl), (Nat.le_of_ble_eq_true rfl)⟩) g hK (by decide) (by decide) (fx' := [(0, 10, a0_, .int x_494), (0, 8, a0_, .int y_349), (8, 6, q0_, .int 1201), (8, 8, q0_, .int x_334), (0, 4, a0_, .ref a_331), (0, 12, a0_, .int 0), (0, 3, a0_, .ref g76_0_3_a0_), (0, 0, a0_, .ref q0_), (0, 2, a0_, .ref q1_)]) rfl (fun fr_499 H locs hp hMr_499 g => ?_)
                                          obtain ⟨x_500, h_501, hF_502⟩ := hp
                                          have g := g.more hF_502
                                          refine lv_aload_n hx hb dX0_closeParts_162 rfl (lv_at hl 5 rfl) ?_
                                          refine g_getk (C := RX0) (T := TX0) (N := 14) hx hb hts (mc_ inX0) hown hK g rfl 2 (by decide) rfl (hts _ (List.mem_cons_of_mem _ t_375)) (fun _ h9 => h9) 9 rfl dX0_closeParts_163 ?_
                                          refine lv_aload_n hx hb dX0_closeParts_166 rfl (lv_at hl 5 rfl) ?_
                                          refine g_getr (K := 112) (C := RX0) (T := TX0) (N := 14) hx hb hts (mc_ inX0) hown hK g ma0_ ka0_ (by decide) rfl 5 (by decide) rfl (hts _ (List.mem_cons_of_mem _ t_378)) (fun _ h9 => h9) rfl dX0_closeParts_167 (fun a_503 ma_503 ka_503 g => ?_)
                                          refine lv_aload_n hx hb dX0_closeParts_170 rfl (lv_at hl 5 rfl) ?_
                                          refine g_getk (C := RX0) (T := TX0) (N := 14) hx hb hts (mc_ inX0) hown hK g rfl 8 (by decide) rfl (hts _ (List.mem_cons_of_mem _ t_381)) (fun _ h9 => h9) 3 rfl dX0_closeParts_171 ?_
                                          refine g_iald hx hb hK g ma_503 ka_503 (by decide) rfl (in_bd b_350 (by decide)) dX0_closeParts_174 (fun x_504 bx_504 cx_504 => ?_)
                                          refine g_callv (va_runV (As := [.int x_504]) (rest := []) ⟨hx, hb, hml, hown, hts⟩ (r_X7_leadHere l dC dI L kd tys fr_499 H.size g.2.2.2.1 q1_ mq1_ kq1_ x_504) (cwV 1 hts (gV_ t_1207 t_1208 t_1209 t_191 t_1210) rfl rfl rfl (by decide +kernel) ⟨(Nat.le_of_ble_eq_true rfl), (Nat.le_of_ble_eq_true rfl)⟩) (pre3V g hK mq1_ kq1_ (by decide) (q := (RX7, TX7, 19)) rfl) rfl rfl hl.1 rfl (lv_room (Nat.le_of_ble_eq_true rfl)) dX0_closeParts_175 ⟨(Nat.le_of_ble_eq_true rfl), (Nat.le_of_ble_eq_true rfl)⟩) g hK (by decide) (by decide) (fx' := [(0, 5, a0_, .ref a_503), (7, 6, q1_, .int x_500), (0, 10, a0_, .int x_494), (0, 8, a0_, .int y_349), (8, 6, q0_, .int 1201), (8, 8, q0_, .int x_334), (0, 4, a0_, .ref a_331), (0, 12, a0_, .int 0), (0, 3, a0_, .ref g76_0_3_a0_), (0, 0, a0_, .ref q0_), (0, 2, a0_, .ref q1_)]) rfl (fun fr_505 H locs hp hMr_505 g => ?_)
                                          refine lv_goto (tgt := 191) hx hb dX0_closeParts_178 (by decide) ?_
                                          refine lv_iconst (v := 1) hx hb dX0_closeParts_191 (by decide) ?_
                                          refine lv_iload hx hb dX0_closeParts_192 (lv_at hl 2 rfl) ?_
                                          refine lv_if_eq (tgt := 202) hx hb dX0_closeParts_194 (by decide) (fun c_ => ?_) (fun c_ => absurd (by decide) c_)
                                          refine lv_iload hx hb dX0_closeParts_202 (lv_at hl 0 rfl) ?_
                                          refine lv_aload_n hx hb dX0_closeParts_204 rfl (lv_at hl 5 rfl) ?_
                                          refine g_calli (va_runV (As := []) (rest := [.int r_493, .int 1]) ⟨hx, hb, hml, hown, hts⟩ (r_X0_takeHeight l dC dI L kd tys fr_505 H.size g.2.2.2.1 a0_ ma0_ ka0_) (cwV 0 hts (gV_ t_1199 t_1201 t_16 t_190 t_1202) rfl rfl rfl (by decide +kernel) ⟨(Nat.le_of_ble_eq_true rfl), (Nat.le_of_ble_eq_true rfl)⟩) (pre3V g hK ma0_ ka0_ (by decide) (q := (RX0, TX0, 14)) rfl) rfl rfl hl.1 rfl (lv_room (Nat.le_of_ble_eq_true rfl)) dX0_closeParts_205 ⟨(Nat.le_of_ble_eq_true rfl), (Nat.le_of_ble_eq_true rfl)⟩) g hK (by decide) (by decide) (fx' := [(0, 5, a0_, .ref a_503), (7, 6, q1_, .int x_500), (0, 8, a0_, .int y_349), (8, 6, q0_, .int 1201), (8, 8, q0_, .int x_334), (0, 4, a0_, .ref a_331), (0, 12, a0_, .int 0), (0, 3, a0_, .ref g76_0_3_a0_), (0, 0, a0_, .ref q0_), (0, 2, a0_, .ref q1_)]) rfl (fun r_506 fr_506 H locs hp hMr_506 g => ?_)
                                          obtain ⟨x_507, h_508, hF_509⟩ := hp
                                          have g := g.more hF_509
                                          refine va_mmax hx hb (hml.trans hl.1.symm) hown (hts _ (List.mem_cons_of_mem _ t_1194)) (hts _ (List.mem_cons_of_mem _ t_1041)) (hts _ (List.mem_cons_of_mem _ t_204)) (hts _ (List.mem_cons_of_mem _ t_1042)) (Nat.le_of_ble_eq_true rfl) (Nat.le_of_ble_eq_true rfl) (Nat.le_of_ble_eq_true rfl) (Nat.le_of_ble_eq_true rfl) dX0_closeParts_208 ?_
                                          refine lv_topi (fun y_510 ey_510 => ?_)
                                          have ty_510 : y_510.toInt = max r_493.toInt r_506.toInt := by rw [ey_510]; exact mmax_ok _ _
                                          have b_511 : bd (-2147483648) 2147483647 y_510 := max_rg ty_510 (bdT r_493) (bdT r_506) (by decide)
                                          refine lv_iadd hx hb dX0_closeParts_211 ?_
                                          refine lv_topi (fun y_512 ey_512 => ?_)
                                          refine lv_istore (lv' := [(6, .int y_512), (2, .int 1), (5, .int 0), (4, .int x_351), (3, .int v4_3), (0, .ref a0_), (1, .int x1_)]) hx hb dX0_closeParts_212 hl (by decide) rfl (fun ls hl => ?_)
                                          refine lv_aload_n hx hb dX0_closeParts_214 rfl (lv_at hl 5 rfl) ?_
                                          refine lv_iload hx hb dX0_closeParts_215 (lv_at hl 0 rfl) ?_
                                          refine g_callv (va_runV (As := [.int y_512]) (rest := []) ⟨hx, hb, hml, hown, hts⟩ (r_X0_addWhole l dC dI L kd tys fr_506 H.size g.2.2.2.1 a0_ ma0_ ka0_ y_512) (cwV 1 hts (gV_ t_1211 t_1213 t_17 t_190 t_1214) rfl rfl rfl (by decide +kernel) ⟨(Nat.le_of_ble_eq_true rfl), (Nat.le_of_ble_eq_true rfl)⟩) (pre3V g hK ma0_ ka0_ (by decide) (q := (RX0, TX0, 14)) rfl) rfl rfl hl.1 rfl (lv_room (Nat.le_of_ble_eq_true rfl)) dX0_closeParts_217 ⟨(Nat.le_of_ble_eq_true rfl), (Nat.le_of_ble_eq_true rfl)⟩) g hK (by decide) (by decide) (fx' := [(0, 5, a0_, .ref a_503), (7, 6, q1_, .int x_500), (0, 8, a0_, .int y_349), (8, 6, q0_, .int 1201), (8, 8, q0_, .int x_334), (0, 4, a0_, .ref a_331), (0, 3, a0_, .ref g76_0_3_a0_), (0, 0, a0_, .ref q0_), (0, 2, a0_, .ref q1_)]) rfl (fun fr_513 H locs hp hMr_513 g => ?_)
                                          obtain ⟨x_514, h_515, hF_516⟩ := hp
                                          have g := g.more hF_516
                                          refine lv_iload hx hb dX0_closeParts_220 (lv_at hl 0 rfl) ?_
                                          refine lv_bipush (v := 12) hx hb dX0_closeParts_222 (by decide) ?_
                                          refine lv_icmp_le (tgt := 245) hx hb dX0_closeParts_224 (by decide) (fun c_517 => ?_) (fun c_517 => ?_)
                                          · have fc_517 := le_f c_517
                                            have b_518 : bd (-2147483648) 12 y_512 := leL fc_517 (bdT y_512) kb_12 (by decide)
                                            obtain ⟨y_519, ey_519⟩ : ∃ z : Int32, z = v4_3 + 1 := ⟨_, rfl⟩
                                            refine lv_iinc (v := y_519) (lv' := [(3, .int y_519), (6, .int y_512), (2, .int 1), (5, .int 0), (4, .int x_351), (0, .ref a0_), (1, .int x1_)]) hx hb dX0_closeParts_245 hl (k := 4) rfl (by rw [ey_519]; rfl) (by decide) rfl (fun ls hl => ?_)
                                            have ty_519 := add_bd ey_519 b_342 kb_1 (by decide)
                                            have b_520 : bd 2 300 y_519 := add_rg ty_519 b_342 kb_1 (by decide)
                                            refine lv_goto (tgt := 4) hx hb dX0_closeParts_248 (by decide) ?_
                                            have hl9 := lv_sub hl [0, 1, 2, 3, 4, 5, 6] (by rfl : lv_pick [(3, .int y_519), (6, .int y_512), (2, .int 1), (5, .int 0), (4, .int x_351), (0, .ref a0_), (1, .int x1_)] [0, 1, 2, 3, 4, 5, 6] = [(3, .int y_519), (6, .int y_512), (2, .int 1), (5, .int 0), (4, .int x_351), (0, .ref a0_), (1, .int x1_)])
                                            have g9 := g.sub (fx' := [(8, 6, q0_, .int 1201), (8, 8, q0_, .int x_334), (0, 4, a0_, .ref a_331), (0, 12, a0_, .int 0), (0, 10, a0_, .int x_514), (7, 6, q1_, .int x_500), (0, 8, a0_, .int y_349), (0, 3, a0_, .ref g76_0_3_a0_), (0, 0, a0_, .ref q0_), (0, 2, a0_, .ref q1_)]) [5, 6, 7, 0, 1, 3, 4, 8, 9, 10] rfl
                                            exact ih4  y_519 y_512 1 0 x_351 x_514 x_500 y_349 (bd_sub b_520 (by decide)) (bd_sub kb_1 (by decide)) (bd_sub kb_0 (by decide)) h_515 h_501 (bd_sub b_350 (by decide)) (by have h9_0 := b_350; unfold bd at h9_0; have h9_1 := b_498; unfold bd at h9_1; have h9_2 := b_518; unfold bd at h9_2; have h9_3 := b_520; unfold bd at h9_3; have h9_4 := bdT v4_4; unfold bd at h9_4; have h9_5 := bdT v4_6; unfold bd at h9_5; have h9_6 := bv4_2; unfold bd at h9_6; have h9_7 := bv4_3; unfold bd at h9_7; have h9_8 := bv4_5; unfold bd at h9_8; have h9_9 := bw4_0_10_a0_; unfold bd at h9_9; have h9_10 := bw4_0_8_a0_; unfold bd at h9_10; have h9_11 := bw4_7_6_q1_; unfold bd at h9_11; have h9_12 := h_501; unfold bd at h9_12; have h9_13 := h_515; unfold bd at h9_13; have h9_14 := kb_0; unfold bd at h9_14; have h9_15 := kb_1; unfold bd at h9_15; have h9_16 := kb_12; unfold bd at h9_16; have h9_17 := kb_205; unfold bd at h9_17; have h9_18 := kb_300; unfold bd at h9_18; have h9_19 := kb_6; unfold bd at h9_19; have h9_20 := kb_7; unfold bd at h9_20; omega) _ _ _ _ g9  hl9
                                          · have fc_517 := nle_f c_517
                                            have b_521 : bd 13 2147483647 y_512 := ltR fc_517 kb_12 (bdT y_512) (by decide)
                                            refine lv_aload_n hx hb dX0_closeParts_227 rfl (lv_at hl 5 rfl) ?_
                                            refine g_getk (C := RX0) (T := TX0) (N := 14) hx hb hts (mc_ inX0) hown hK g rfl 0 (by decide) rfl (hts _ (List.mem_cons_of_mem _ t_373)) (fun _ h9 => h9) 9 rfl dX0_closeParts_228 ?_
                                            refine lv_bipush (v := 7) hx hb dX0_closeParts_231 (by decide) ?_
                                            refine lv_aload_n hx hb dX0_closeParts_233 rfl (lv_at hl 5 rfl) ?_
                                            refine g_getk (C := RX0) (T := TX0) (N := 14) hx hb hts (mc_ inX0) hown hK g rfl 4 (by decide) rfl (hts _ (List.mem_cons_of_mem _ t_377)) (fun _ h9 => h9) 7 rfl dX0_closeParts_234 ?_
                                            refine lv_aload_n hx hb dX0_closeParts_237 rfl (lv_at hl 5 rfl) ?_
                                            refine g_getk (C := RX0) (T := TX0) (N := 14) hx hb hts (mc_ inX0) hown hK g rfl 8 (by decide) rfl (hts _ (List.mem_cons_of_mem _ t_381)) (fun _ h9 => h9) 4 rfl dX0_closeParts_238 ?_
                                            refine g_iald hx hb hK g ma_331 ka_331 (by decide) rfl (in_bd b_350 (by decide)) dX0_closeParts_241 (fun x_522 bx_522 cx_522 => ?_)
                                            refine g_callv (va_runV (As := [.int 7, .int x_522]) (rest := []) ⟨hx, hb, hml, hown, hts⟩ (r_X8_fail_2 l dC dI L kd tys fr_513 H.size g.2.2.2.1 q0_ mq0_ kq0_ 7 (bd_sub kb_7 (by decide)) x_522 x_334 h_335 (g.fcts [6] rfl)) (cwV 2 hts (gV_ t_1215 t_1107 t_1108 t_184 t_1109) rfl rfl rfl (by decide +kernel) ⟨(Nat.le_of_ble_eq_true rfl), (Nat.le_of_ble_eq_true rfl)⟩) (pre3V g hK mq0_ kq0_ (by decide) (q := (RX8, TX8, 10)) rfl) rfl rfl hl.1 rfl (lv_room (Nat.le_of_ble_eq_true rfl)) dX0_closeParts_242 ⟨(Nat.le_of_ble_eq_true rfl), (Nat.le_of_ble_eq_true rfl)⟩) g hK (by decide) (by decide) (fx' := [(0, 12, a0_, .int 0), (0, 10, a0_, .int x_514), (0, 5, a0_, .ref a_503), (7, 6, q1_, .int x_500), (0, 8, a0_, .int y_349), (8, 8, q0_, .int x_334), (0, 4, a0_, .ref a_331), (0, 3, a0_, .ref g76_0_3_a0_), (0, 0, a0_, .ref q0_), (0, 2, a0_, .ref q1_)]) rfl (fun fr_523 H locs hp hMr_523 g => ?_)
                                            have hF_524 := hp
                                            have g := g.more hF_524
                                            obtain ⟨y_525, ey_525⟩ : ∃ z : Int32, z = v4_3 + 1 := ⟨_, rfl⟩
                                            refine lv_iinc (v := y_525) (lv' := [(3, .int y_525), (6, .int y_512), (2, .int 1), (5, .int 0), (4, .int x_351), (0, .ref a0_), (1, .int x1_)]) hx hb dX0_closeParts_245 hl (k := 4) rfl (by rw [ey_525]; rfl) (by decide) rfl (fun ls hl => ?_)
                                            have ty_525 := add_bd ey_525 b_342 kb_1 (by decide)
                                            have b_526 : bd 2 300 y_525 := add_rg ty_525 b_342 kb_1 (by decide)
                                            refine lv_goto (tgt := 4) hx hb dX0_closeParts_248 (by decide) ?_
                                            have hl9 := lv_sub hl [0, 1, 2, 3, 4, 5, 6] (by rfl : lv_pick [(3, .int y_525), (6, .int y_512), (2, .int 1), (5, .int 0), (4, .int x_351), (0, .ref a0_), (1, .int x1_)] [0, 1, 2, 3, 4, 5, 6] = [(3, .int y_525), (6, .int y_512), (2, .int 1), (5, .int 0), (4, .int x_351), (0, .ref a0_), (1, .int x1_)])
                                            have g9 := g.sub (fx' := [(8, 6, q0_, .int 1201), (8, 8, q0_, .int x_334), (0, 4, a0_, .ref a_331), (0, 12, a0_, .int 0), (0, 10, a0_, .int x_514), (7, 6, q1_, .int x_500), (0, 8, a0_, .int y_349), (0, 3, a0_, .ref g76_0_3_a0_), (0, 0, a0_, .ref q0_), (0, 2, a0_, .ref q1_)]) [0, 6, 7, 1, 2, 4, 5, 8, 9, 10] rfl
                                            exact ih4  y_525 y_512 1 0 x_351 x_514 x_500 y_349 (bd_sub b_526 (by decide)) (bd_sub kb_1 (by decide)) (bd_sub kb_0 (by decide)) h_515 h_501 (bd_sub b_350 (by decide)) (by have h9_0 := b_350; unfold bd at h9_0; have h9_1 := b_498; unfold bd at h9_1; have h9_2 := b_521; unfold bd at h9_2; have h9_3 := b_526; unfold bd at h9_3; have h9_4 := bdT v4_4; unfold bd at h9_4; have h9_5 := bdT v4_6; unfold bd at h9_5; have h9_6 := bv4_2; unfold bd at h9_6; have h9_7 := bv4_3; unfold bd at h9_7; have h9_8 := bv4_5; unfold bd at h9_8; have h9_9 := bw4_0_10_a0_; unfold bd at h9_9; have h9_10 := bw4_0_8_a0_; unfold bd at h9_10; have h9_11 := bw4_7_6_q1_; unfold bd at h9_11; have h9_12 := h_501; unfold bd at h9_12; have h9_13 := h_515; unfold bd at h9_13; have h9_14 := kb_0; unfold bd at h9_14; have h9_15 := kb_1; unfold bd at h9_15; have h9_16 := kb_12; unfold bd at h9_16; have h9_17 := kb_205; unfold bd at h9_17; have h9_18 := kb_300; unfold bd at h9_18; have h9_19 := kb_6; unfold bd at h9_19; have h9_20 := kb_7; unfold bd at h9_20; omega) _ _ _ _ g9  hl9
                                        · have fc_497 := neq_f c_497
                                          refine lv_iload hx hb dX0_closeParts_144 (lv_at hl 3 rfl) ?_
                                          refine lv_sipush (v := 206) hx hb dX0_closeParts_146 (by decide) ?_
                                          have kb_206 : bd 206 206 (206 : Int32) := ⟨by decide, by decide⟩
                                          refine lv_icmp_ne (tgt := 181) hx hb dX0_closeParts_149 (by decide) (fun c_527 => ?_) (fun c_527 => ?_)
                                          · have fc_527 := neq_f c_527
                                            have b_528 : bd 37 205 x_351 := neX fc_527 b_485 kb_206 (by decide)
                                            refine lv_aload_n hx hb dX0_closeParts_181 rfl (lv_at hl 5 rfl) ?_
                                            refine g_getk (C := RX0) (T := TX0) (N := 14) hx hb hts (mc_ inX0) hown hK g rfl 2 (by decide) rfl (hts _ (List.mem_cons_of_mem _ t_375)) (fun _ h9 => h9) 9 rfl dX0_closeParts_182 ?_
                                            refine lv_iload hx hb dX0_closeParts_185 (lv_at hl 3 rfl) ?_
                                            refine lv_iconst (v := 0) hx hb dX0_closeParts_187 (by decide) ?_
                                            refine g_callv (va_runV (As := [.int x_351, .int 0]) (rest := []) ⟨hx, hb, hml, hown, hts⟩ (r_X7_emit l dC dI L kd tys fr_493 H.size g.2.2.2.1 q1_ mq1_ kq1_ x_351 0) (cwV 2 hts (gV_ t_1203 t_1204 t_1205 t_191 t_1206) rfl rfl rfl (by decide +kernel) ⟨(Nat.le_of_ble_eq_true rfl), (Nat.le_of_ble_eq_true rfl)⟩) (pre3V g hK mq1_ kq1_ (by decide) (q := (RX7, TX7, 19)) rfl) rfl rfl hl.1 rfl (lv_room (Nat.le_of_ble_eq_true rfl)) dX0_closeParts_188 ⟨(Nat.le_of_ble_eq_true rfl), (Nat.le_of_ble_eq_true rfl)⟩) g hK (by decide) (by decide) (fx' := [(0, 10, a0_, .int x_494), (0, 8, a0_, .int y_349), (8, 6, q0_, .int 1201), (8, 8, q0_, .int x_334), (0, 4, a0_, .ref a_331), (0, 12, a0_, .int 0), (0, 3, a0_, .ref g76_0_3_a0_), (0, 0, a0_, .ref q0_), (0, 2, a0_, .ref q1_)]) rfl (fun fr_529 H locs hp hMr_529 g => ?_)
                                            obtain ⟨x_530, h_531, hF_532⟩ := hp
                                            have g := g.more hF_532
                                            refine lv_iconst (v := 1) hx hb dX0_closeParts_191 (by decide) ?_
                                            refine lv_iload hx hb dX0_closeParts_192 (lv_at hl 2 rfl) ?_
                                            refine lv_if_eq (tgt := 202) hx hb dX0_closeParts_194 (by decide) (fun c_ => ?_) (fun c_ => absurd (by decide) c_)
                                            refine lv_iload hx hb dX0_closeParts_202 (lv_at hl 0 rfl) ?_
                                            refine lv_aload_n hx hb dX0_closeParts_204 rfl (lv_at hl 5 rfl) ?_
                                            refine g_calli (va_runV (As := []) (rest := [.int r_493, .int 1]) ⟨hx, hb, hml, hown, hts⟩ (r_X0_takeHeight l dC dI L kd tys fr_529 H.size g.2.2.2.1 a0_ ma0_ ka0_) (cwV 0 hts (gV_ t_1199 t_1201 t_16 t_190 t_1202) rfl rfl rfl (by decide +kernel) ⟨(Nat.le_of_ble_eq_true rfl), (Nat.le_of_ble_eq_true rfl)⟩) (pre3V g hK ma0_ ka0_ (by decide) (q := (RX0, TX0, 14)) rfl) rfl rfl hl.1 rfl (lv_room (Nat.le_of_ble_eq_true rfl)) dX0_closeParts_205 ⟨(Nat.le_of_ble_eq_true rfl), (Nat.le_of_ble_eq_true rfl)⟩) g hK (by decide) (by decide) (fx' := [(7, 6, q1_, .int x_530), (0, 8, a0_, .int y_349), (8, 6, q0_, .int 1201), (8, 8, q0_, .int x_334), (0, 4, a0_, .ref a_331), (0, 12, a0_, .int 0), (0, 3, a0_, .ref g76_0_3_a0_), (0, 0, a0_, .ref q0_), (0, 2, a0_, .ref q1_)]) rfl (fun r_533 fr_533 H locs hp hMr_533 g => ?_)
                                            obtain ⟨x_534, h_535, hF_536⟩ := hp
                                            have g := g.more hF_536
                                            refine va_mmax hx hb (hml.trans hl.1.symm) hown (hts _ (List.mem_cons_of_mem _ t_1194)) (hts _ (List.mem_cons_of_mem _ t_1041)) (hts _ (List.mem_cons_of_mem _ t_204)) (hts _ (List.mem_cons_of_mem _ t_1042)) (Nat.le_of_ble_eq_true rfl) (Nat.le_of_ble_eq_true rfl) (Nat.le_of_ble_eq_true rfl) (Nat.le_of_ble_eq_true rfl) dX0_closeParts_208 ?_
                                            refine lv_topi (fun y_537 ey_537 => ?_)
                                            have ty_537 : y_537.toInt = max r_493.toInt r_533.toInt := by rw [ey_537]; exact mmax_ok _ _
                                            have b_538 : bd (-2147483648) 2147483647 y_537 := max_rg ty_537 (bdT r_493) (bdT r_533) (by decide)
                                            refine lv_iadd hx hb dX0_closeParts_211 ?_
                                            refine lv_topi (fun y_539 ey_539 => ?_)
                                            refine lv_istore (lv' := [(6, .int y_539), (2, .int 1), (5, .int 0), (4, .int x_351), (3, .int v4_3), (0, .ref a0_), (1, .int x1_)]) hx hb dX0_closeParts_212 hl (by decide) rfl (fun ls hl => ?_)
                                            refine lv_aload_n hx hb dX0_closeParts_214 rfl (lv_at hl 5 rfl) ?_
                                            refine lv_iload hx hb dX0_closeParts_215 (lv_at hl 0 rfl) ?_
                                            refine g_callv (va_runV (As := [.int y_539]) (rest := []) ⟨hx, hb, hml, hown, hts⟩ (r_X0_addWhole l dC dI L kd tys fr_533 H.size g.2.2.2.1 a0_ ma0_ ka0_ y_539) (cwV 1 hts (gV_ t_1211 t_1213 t_17 t_190 t_1214) rfl rfl rfl (by decide +kernel) ⟨(Nat.le_of_ble_eq_true rfl), (Nat.le_of_ble_eq_true rfl)⟩) (pre3V g hK ma0_ ka0_ (by decide) (q := (RX0, TX0, 14)) rfl) rfl rfl hl.1 rfl (lv_room (Nat.le_of_ble_eq_true rfl)) dX0_closeParts_217 ⟨(Nat.le_of_ble_eq_true rfl), (Nat.le_of_ble_eq_true rfl)⟩) g hK (by decide) (by decide) (fx' := [(7, 6, q1_, .int x_530), (0, 8, a0_, .int y_349), (8, 6, q0_, .int 1201), (8, 8, q0_, .int x_334), (0, 4, a0_, .ref a_331), (0, 3, a0_, .ref g76_0_3_a0_), (0, 0, a0_, .ref q0_), (0, 2, a0_, .ref q1_)]) rfl (fun fr_540 H locs hp hMr_540 g => ?_)
                                            obtain ⟨x_541, h_542, hF_543⟩ := hp
                                            have g := g.more hF_543
                                            refine lv_iload hx hb dX0_closeParts_220 (lv_at hl 0 rfl) ?_
                                            refine lv_bipush (v := 12) hx hb dX0_closeParts_222 (by decide) ?_
                                            refine lv_icmp_le (tgt := 245) hx hb dX0_closeParts_224 (by decide) (fun c_544 => ?_) (fun c_544 => ?_)
                                            · have fc_544 := le_f c_544
                                              have b_545 : bd (-2147483648) 12 y_539 := leL fc_544 (bdT y_539) kb_12 (by decide)
                                              obtain ⟨y_546, ey_546⟩ : ∃ z : Int32, z = v4_3 + 1 := ⟨_, rfl⟩
                                              refine lv_iinc (v := y_546) (lv' := [(3, .int y_546), (6, .int y_539), (2, .int 1), (5, .int 0), (4, .int x_351), (0, .ref a0_), (1, .int x1_)]) hx hb dX0_closeParts_245 hl (k := 4) rfl (by rw [ey_546]; rfl) (by decide) rfl (fun ls hl => ?_)
                                              have ty_546 := add_bd ey_546 b_342 kb_1 (by decide)
                                              have b_547 : bd 2 300 y_546 := add_rg ty_546 b_342 kb_1 (by decide)
                                              refine lv_goto (tgt := 4) hx hb dX0_closeParts_248 (by decide) ?_
                                              have hl9 := lv_sub hl [0, 1, 2, 3, 4, 5, 6] (by rfl : lv_pick [(3, .int y_546), (6, .int y_539), (2, .int 1), (5, .int 0), (4, .int x_351), (0, .ref a0_), (1, .int x1_)] [0, 1, 2, 3, 4, 5, 6] = [(3, .int y_546), (6, .int y_539), (2, .int 1), (5, .int 0), (4, .int x_351), (0, .ref a0_), (1, .int x1_)])
                                              have g9 := g.sub (fx' := [(8, 6, q0_, .int 1201), (8, 8, q0_, .int x_334), (0, 4, a0_, .ref a_331), (0, 12, a0_, .int 0), (0, 10, a0_, .int x_541), (7, 6, q1_, .int x_530), (0, 8, a0_, .int y_349), (0, 3, a0_, .ref g76_0_3_a0_), (0, 0, a0_, .ref q0_), (0, 2, a0_, .ref q1_)]) [4, 5, 6, 0, 1, 2, 3, 7, 8, 9] rfl
                                              exact ih4  y_546 y_539 1 0 x_351 x_541 x_530 y_349 (bd_sub b_547 (by decide)) (bd_sub kb_1 (by decide)) (bd_sub kb_0 (by decide)) h_542 h_531 (bd_sub b_350 (by decide)) (by have h9_0 := b_350; unfold bd at h9_0; have h9_1 := b_528; unfold bd at h9_1; have h9_2 := b_545; unfold bd at h9_2; have h9_3 := b_547; unfold bd at h9_3; have h9_4 := bdT v4_4; unfold bd at h9_4; have h9_5 := bdT v4_6; unfold bd at h9_5; have h9_6 := bv4_2; unfold bd at h9_6; have h9_7 := bv4_3; unfold bd at h9_7; have h9_8 := bv4_5; unfold bd at h9_8; have h9_9 := bw4_0_10_a0_; unfold bd at h9_9; have h9_10 := bw4_0_8_a0_; unfold bd at h9_10; have h9_11 := bw4_7_6_q1_; unfold bd at h9_11; have h9_12 := h_531; unfold bd at h9_12; have h9_13 := h_542; unfold bd at h9_13; have h9_14 := kb_0; unfold bd at h9_14; have h9_15 := kb_1; unfold bd at h9_15; have h9_16 := kb_12; unfold bd at h9_16; have h9_17 := kb_205; unfold bd at h9_17; have h9_18 := kb_206; unfold bd at h9_18; have h9_19 := kb_300; unfold bd at h9_19; have h9_20 := kb_6; unfold bd at h9_20; have h9_21 := kb_7; unfold bd at h9_21; omega) _ _ _ _ g9  hl9
                                            · have fc_544 := nle_f c_544
                                              have b_548 : bd 13 2147483647 y_539 := ltR fc_544 kb_12 (bdT y_539) (by decide)
                                              refine lv_aload_n hx hb dX0_closeParts_227 rfl (lv_at hl 5 rfl) ?_
                                              refine g_getk (C := RX0) (T := TX0) (N := 14) hx hb hts (mc_ inX0) hown hK g rfl 0 (by decide) rfl (hts _ (List.mem_cons_of_mem _ t_373)) (fun _ h9 => h9) 8 rfl dX0_closeParts_228 ?_
                                              refine lv_bipush (v := 7) hx hb dX0_closeParts_231 (by decide) ?_
                                              refine lv_aload_n hx hb dX0_closeParts_233 rfl (lv_at hl 5 rfl) ?_
                                              refine g_getk (C := RX0) (T := TX0) (N := 14) hx hb hts (mc_ inX0) hown hK g rfl 4 (by decide) rfl (hts _ (List.mem_cons_of_mem _ t_377)) (fun _ h9 => h9) 6 rfl dX0_closeParts_234 ?_
                                              refine lv_aload_n hx hb dX0_closeParts_237 rfl (lv_at hl 5 rfl) ?_
                                              refine g_getk (C := RX0) (T := TX0) (N := 14) hx hb hts (mc_ inX0) hown hK g rfl 8 (by decide) rfl (hts _ (List.mem_cons_of_mem _ t_381)) (fun _ h9 => h9) 3 rfl dX0_closeParts_238 ?_
                                              refine g_iald hx hb hK g ma_331 ka_331 (by decide) rfl (in_bd b_350 (by decide)) dX0_closeParts_241 (fun x_549 bx_549 cx_549 => ?_)
                                              refine g_callv (va_runV (As := [.int 7, .int x_549]) (rest := []) ⟨hx, hb, hml, hown, hts⟩ (r_X8_fail_2 l dC dI L kd tys fr_540 H.size g.2.2.2.1 q0_ mq0_ kq0_ 7 (bd_sub kb_7 (by decide)) x_549 x_334 h_335 (g.fcts [5] rfl)) (cwV 2 hts (gV_ t_1215 t_1107 t_1108 t_184 t_1109) rfl rfl rfl (by decide +kernel) ⟨(Nat.le_of_ble_eq_true rfl), (Nat.le_of_ble_eq_true rfl)⟩) (pre3V g hK mq0_ kq0_ (by decide) (q := (RX8, TX8, 10)) rfl) rfl rfl hl.1 rfl (lv_room (Nat.le_of_ble_eq_true rfl)) dX0_closeParts_242 ⟨(Nat.le_of_ble_eq_true rfl), (Nat.le_of_ble_eq_true rfl)⟩) g hK (by decide) (by decide) (fx' := [(0, 12, a0_, .int 0), (0, 10, a0_, .int x_541), (7, 6, q1_, .int x_530), (0, 8, a0_, .int y_349), (8, 8, q0_, .int x_334), (0, 4, a0_, .ref a_331), (0, 3, a0_, .ref g76_0_3_a0_), (0, 0, a0_, .ref q0_), (0, 2, a0_, .ref q1_)]) rfl (fun fr_550 H locs hp hMr_550 g => ?_)
                                              have hF_551 := hp
                                              have g := g.more hF_551
                                              obtain ⟨y_552, ey_552⟩ : ∃ z : Int32, z = v4_3 + 1 := ⟨_, rfl⟩
                                              refine lv_iinc (v := y_552) (lv' := [(3, .int y_552), (6, .int y_539), (2, .int 1), (5, .int 0), (4, .int x_351), (0, .ref a0_), (1, .int x1_)]) hx hb dX0_closeParts_245 hl (k := 4) rfl (by rw [ey_552]; rfl) (by decide) rfl (fun ls hl => ?_)
                                              have ty_552 := add_bd ey_552 b_342 kb_1 (by decide)
                                              have b_553 : bd 2 300 y_552 := add_rg ty_552 b_342 kb_1 (by decide)
                                              refine lv_goto (tgt := 4) hx hb dX0_closeParts_248 (by decide) ?_
                                              have hl9 := lv_sub hl [0, 1, 2, 3, 4, 5, 6] (by rfl : lv_pick [(3, .int y_552), (6, .int y_539), (2, .int 1), (5, .int 0), (4, .int x_351), (0, .ref a0_), (1, .int x1_)] [0, 1, 2, 3, 4, 5, 6] = [(3, .int y_552), (6, .int y_539), (2, .int 1), (5, .int 0), (4, .int x_351), (0, .ref a0_), (1, .int x1_)])
                                              have g9 := g.sub (fx' := [(8, 6, q0_, .int 1201), (8, 8, q0_, .int x_334), (0, 4, a0_, .ref a_331), (0, 12, a0_, .int 0), (0, 10, a0_, .int x_541), (7, 6, q1_, .int x_530), (0, 8, a0_, .int y_349), (0, 3, a0_, .ref g76_0_3_a0_), (0, 0, a0_, .ref q0_), (0, 2, a0_, .ref q1_)]) [0, 5, 6, 1, 2, 3, 4, 7, 8, 9] rfl
                                              exact ih4  y_552 y_539 1 0 x_351 x_541 x_530 y_349 (bd_sub b_553 (by decide)) (bd_sub kb_1 (by decide)) (bd_sub kb_0 (by decide)) h_542 h_531 (bd_sub b_350 (by decide)) (by have h9_0 := b_350; unfold bd at h9_0; have h9_1 := b_528; unfold bd at h9_1; have h9_2 := b_548; unfold bd at h9_2; have h9_3 := b_553; unfold bd at h9_3; have h9_4 := bdT v4_4; unfold bd at h9_4; have h9_5 := bdT v4_6; unfold bd at h9_5; have h9_6 := bv4_2; unfold bd at h9_6; have h9_7 := bv4_3; unfold bd at h9_7; have h9_8 := bv4_5; unfold bd at h9_8; have h9_9 := bw4_0_10_a0_; unfold bd at h9_9; have h9_10 := bw4_0_8_a0_; unfold bd at h9_10; have h9_11 := bw4_7_6_q1_; unfold bd at h9_11; have h9_12 := h_531; unfold bd at h9_12; have h9_13 := h_542; unfold bd at h9_13; have h9_14 := kb_0; unfold bd at h9_14; have h9_15 := kb_1; unfold bd at h9_15; have h9_16 := kb_12; unfold bd at h9_16; have h9_17 := kb_205; unfold bd at h9_17; have h9_18 := kb_206; unfold bd at h9_18; have h9_19 := kb_300; unfold bd at h9_19; have h9_20 := kb_6; unfold bd at h9_20; have h9_21 := kb_7; unfold bd at h9_21; omega) _ _ _ _ g9  hl9
                                          · have fc_527 := eq_f c_527
                                            have b_554 : bd 206 206 x_351 := eqX fc_527 b_485 kb_206 (by decide)
                                            refine lv_aload_n hx hb dX0_closeParts_152 rfl (lv_at hl 5 rfl) ?_
                                            refine g_getk (C := RX0) (T := TX0) (N := 14) hx hb hts (mc_ inX0) hown hK g rfl 2 (by decide) rfl (hts _ (List.mem_cons_of_mem _ t_375)) (fun _ h9 => h9) 9 rfl dX0_closeParts_153 ?_
                                            refine lv_bipush (v := 8) hx hb dX0_closeParts_156 (by decide) ?_
                                            refine lv_iconst (v := 0) hx hb dX0_closeParts_158 (by decide) ?_
                                            refine g_callv (va_runV (As := [.int 8, .int 0]) (rest := []) ⟨hx, hb, hml, hown, hts⟩ (r_X7_emit l dC dI L kd tys fr_493 H.size g.2.2.2.1 q1_ mq1_ kq1_ 8 0) (cwV 2 hts (gV_ t_1203 t_1204 t_1205 t_191 t_1206) rfl rfl rfl (by decide +kernel) ⟨(Nat.le_of_ble_eq_true rfl), (Nat.le_of_ble_eq_true rfl)⟩) (pre3V g hK mq1_ kq1_ (by decide) (q := (RX7, TX7, 19)) rfl) rfl rfl hl.1 rfl (lv_room (Nat.le_of_ble_eq_true rfl)) dX0_closeParts_159 ⟨(Nat.le_of_ble_eq_true rfl), (Nat.le_of_ble_eq_true rfl)⟩) g hK (by decide) (by decide) (fx' := [(0, 10, a0_, .int x_494), (0, 8, a0_, .int y_349), (8, 6, q0_, .int 1201), (8, 8, q0_, .int x_334), (0, 4, a0_, .ref a_331), (0, 12, a0_, .int 0), (0, 3, a0_, .ref g76_0_3_a0_), (0, 0, a0_, .ref q0_), (0, 2, a0_, .ref q1_)]) rfl (fun fr_555 H locs hp hMr_555 g => ?_)
                                            obtain ⟨x_556, h_557, hF_558⟩ := hp
                                            have g := g.more hF_558
                                            refine lv_aload_n hx hb dX0_closeParts_162 rfl (lv_at hl 5 rfl) ?_
                                            refine g_getk (C := RX0) (T := TX0) (N := 14) hx hb hts (mc_ inX0) hown hK g rfl 2 (by decide) rfl (hts _ (List.mem_cons_of_mem _ t_375)) (fun _ h9 => h9) 9 rfl dX0_closeParts_163 ?_
                                            refine lv_aload_n hx hb dX0_closeParts_166 rfl (lv_at hl 5 rfl) ?_
                                            refine g_getr (K := 112) (C := RX0) (T := TX0) (N := 14) hx hb hts (mc_ inX0) hown hK g ma0_ ka0_ (by decide) rfl 5 (by decide) rfl (hts _ (List.mem_cons_of_mem _ t_378)) (fun _ h9 => h9) rfl dX0_closeParts_167 (fun a_559 ma_559 ka_559 g => ?_)
                                            refine lv_aload_n hx hb dX0_closeParts_170 rfl (lv_at hl 5 rfl) ?_
                                            refine g_getk (C := RX0) (T := TX0) (N := 14) hx hb hts (mc_ inX0) hown hK g rfl 8 (by decide) rfl (hts _ (List.mem_cons_of_mem _ t_381)) (fun _ h9 => h9) 3 rfl dX0_closeParts_171 ?_
                                            refine g_iald hx hb hK g ma_559 ka_559 (by decide) rfl (in_bd b_350 (by decide)) dX0_closeParts_174 (fun x_560 bx_560 cx_560 => ?_)
                                            refine g_callv (va_runV (As := [.int x_560]) (rest := []) ⟨hx, hb, hml, hown, hts⟩ (r_X7_leadHere l dC dI L kd tys fr_555 H.size g.2.2.2.1 q1_ mq1_ kq1_ x_560) (cwV 1 hts (gV_ t_1207 t_1208 t_1209 t_191 t_1210) rfl rfl rfl (by decide +kernel) ⟨(Nat.le_of_ble_eq_true rfl), (Nat.le_of_ble_eq_true rfl)⟩) (pre3V g hK mq1_ kq1_ (by decide) (q := (RX7, TX7, 19)) rfl) rfl rfl hl.1 rfl (lv_room (Nat.le_of_ble_eq_true rfl)) dX0_closeParts_175 ⟨(Nat.le_of_ble_eq_true rfl), (Nat.le_of_ble_eq_true rfl)⟩) g hK (by decide) (by decide) (fx' := [(0, 5, a0_, .ref a_559), (7, 6, q1_, .int x_556), (0, 10, a0_, .int x_494), (0, 8, a0_, .int y_349), (8, 6, q0_, .int 1201), (8, 8, q0_, .int x_334), (0, 4, a0_, .ref a_331), (0, 12, a0_, .int 0), (0, 3, a0_, .ref g76_0_3_a0_), (0, 0, a0_, .ref q0_), (0, 2, a0_, .ref q1_)]) rfl (fun fr_561 H locs hp hMr_561 g => ?_)
                                            refine lv_goto (tgt := 191) hx hb dX0_closeParts_178 (by decide) ?_
                                            refine lv_iconst (v := 1) hx hb dX0_closeParts_191 (by decide) ?_
                                            refine lv_iload hx hb dX0_closeParts_192 (lv_at hl 2 rfl) ?_
                                            refine lv_if_eq (tgt := 202) hx hb dX0_closeParts_194 (by decide) (fun c_ => ?_) (fun c_ => absurd (by decide) c_)
                                            refine lv_iload hx hb dX0_closeParts_202 (lv_at hl 0 rfl) ?_
                                            refine lv_aload_n hx hb dX0_closeParts_204 rfl (lv_at hl 5 rfl) ?_
                                            refine g_calli (va_runV (As := []) (rest := [.int r_493, .int 1]) ⟨hx, hb, hml, hown, hts⟩ (r_X0_takeHeight l dC dI L kd tys fr_561 H.size g.2.2.2.1 a0_ ma0_ ka0_) (cwV 0 hts (gV_ t_1199 t_1201 t_16 t_190 t_1202) rfl rfl rfl (by decide +kernel) ⟨(Nat.le_of_ble_eq_true rfl), (Nat.le_of_ble_eq_true rfl)⟩) (pre3V g hK ma0_ ka0_ (by decide) (q := (RX0, TX0, 14)) rfl) rfl rfl hl.1 rfl (lv_room (Nat.le_of_ble_eq_true rfl)) dX0_closeParts_205 ⟨(Nat.le_of_ble_eq_true rfl), (Nat.le_of_ble_eq_true rfl)⟩) g hK (by decide) (by decide) (fx' := [(0, 5, a0_, .ref a_559), (7, 6, q1_, .int x_556), (0, 8, a0_, .int y_349), (8, 6, q0_, .int 1201), (8, 8, q0_, .int x_334), (0, 4, a0_, .ref a_331), (0, 12, a0_, .int 0), (0, 3, a0_, .ref g76_0_3_a0_), (0, 0, a0_, .ref q0_), (0, 2, a0_, .ref q1_)]) rfl (fun r_562 fr_562 H locs hp hMr_562 g => ?_)
                                            obtain ⟨x_563, h_564, hF_565⟩ := hp
                                            have g := g.more hF_565
                                            refine va_mmax hx hb (hml.trans hl.1.symm) hown (hts _ (List.mem_cons_of_mem _ t_1194)) (hts _ (List.mem_cons_of_mem _ t_1041)) (hts _ (List.mem_cons_of_mem _ t_204)) (hts _ (List.mem_cons_of_mem _ t_1042)) (Nat.le_of_ble_eq_true rfl) (Nat.le_of_ble_eq_true rfl) (Nat.le_of_ble_eq_true rfl) (Nat.le_of_ble_eq_true rfl) dX0_closeParts_208 ?_
                                            refine lv_topi (fun y_566 ey_566 => ?_)
                                            have ty_566 : y_566.toInt = max r_493.toInt r_562.toInt := by rw [ey_566]; exact mmax_ok _ _
                                            have b_567 : bd (-2147483648) 2147483647 y_566 := max_rg ty_566 (bdT r_493) (bdT r_562) (by decide)
                                            refine lv_iadd hx hb dX0_closeParts_211 ?_
                                            refine lv_topi (fun y_568 ey_568 => ?_)
                                            refine lv_istore (lv' := [(6, .int y_568), (2, .int 1), (5, .int 0), (4, .int x_351), (3, .int v4_3), (0, .ref a0_), (1, .int x1_)]) hx hb dX0_closeParts_212 hl (by decide) rfl (fun ls hl => ?_)
                                            refine lv_aload_n hx hb dX0_closeParts_214 rfl (lv_at hl 5 rfl) ?_
                                            refine lv_iload hx hb dX0_closeParts_215 (lv_at hl 0 rfl) ?_
                                            refine g_callv (va_runV (As := [.int y_568]) (rest := []) ⟨hx, hb, hml, hown, hts⟩ (r_X0_addWhole l dC dI L kd tys fr_562 H.size g.2.2.2.1 a0_ ma0_ ka0_ y_568) (cwV 1 hts (gV_ t_1211 t_1213 t_17 t_190 t_1214) rfl rfl rfl (by decide +kernel) ⟨(Nat.le_of_ble_eq_true rfl), (Nat.le_of_ble_eq_true rfl)⟩) (pre3V g hK ma0_ ka0_ (by decide) (q := (RX0, TX0, 14)) rfl) rfl rfl hl.1 rfl (lv_room (Nat.le_of_ble_eq_true rfl)) dX0_closeParts_217 ⟨(Nat.le_of_ble_eq_true rfl), (Nat.le_of_ble_eq_true rfl)⟩) g hK (by decide) (by decide) (fx' := [(0, 5, a0_, .ref a_559), (7, 6, q1_, .int x_556), (0, 8, a0_, .int y_349), (8, 6, q0_, .int 1201), (8, 8, q0_, .int x_334), (0, 4, a0_, .ref a_331), (0, 3, a0_, .ref g76_0_3_a0_), (0, 0, a0_, .ref q0_), (0, 2, a0_, .ref q1_)]) rfl (fun fr_569 H locs hp hMr_569 g => ?_)
                                            obtain ⟨x_570, h_571, hF_572⟩ := hp
                                            have g := g.more hF_572
                                            refine lv_iload hx hb dX0_closeParts_220 (lv_at hl 0 rfl) ?_
                                            refine lv_bipush (v := 12) hx hb dX0_closeParts_222 (by decide) ?_
                                            refine lv_icmp_le (tgt := 245) hx hb dX0_closeParts_224 (by decide) (fun c_573 => ?_) (fun c_573 => ?_)
                                            · have fc_573 := le_f c_573
                                              have b_574 : bd (-2147483648) 12 y_568 := leL fc_573 (bdT y_568) kb_12 (by decide)
                                              obtain ⟨y_575, ey_575⟩ : ∃ z : Int32, z = v4_3 + 1 := ⟨_, rfl⟩
                                              refine lv_iinc (v := y_575) (lv' := [(3, .int y_575), (6, .int y_568), (2, .int 1), (5, .int 0), (4, .int x_351), (0, .ref a0_), (1, .int x1_)]) hx hb dX0_closeParts_245 hl (k := 4) rfl (by rw [ey_575]; rfl) (by decide) rfl (fun ls hl => ?_)
                                              have ty_575 := add_bd ey_575 b_342 kb_1 (by decide)
                                              have b_576 : bd 2 300 y_575 := add_rg ty_575 b_342 kb_1 (by decide)
                                              refine lv_goto (tgt := 4) hx hb dX0_closeParts_248 (by decide) ?_
                                              have hl9 := lv_sub hl [0, 1, 2, 3, 4, 5, 6] (by rfl : lv_pick [(3, .int y_575), (6, .int y_568), (2, .int 1), (5, .int 0), (4, .int x_351), (0, .ref a0_), (1, .int x1_)] [0, 1, 2, 3, 4, 5, 6] = [(3, .int y_575), (6, .int y_568), (2, .int 1), (5, .int 0), (4, .int x_351), (0, .ref a0_), (1, .int x1_)])
                                              have g9 := g.sub (fx' := [(8, 6, q0_, .int 1201), (8, 8, q0_, .int x_334), (0, 4, a0_, .ref a_331), (0, 12, a0_, .int 0), (0, 10, a0_, .int x_570), (7, 6, q1_, .int x_556), (0, 8, a0_, .int y_349), (0, 3, a0_, .ref g76_0_3_a0_), (0, 0, a0_, .ref q0_), (0, 2, a0_, .ref q1_)]) [5, 6, 7, 0, 1, 3, 4, 8, 9, 10] rfl
                                              exact ih4  y_575 y_568 1 0 x_351 x_570 x_556 y_349 (bd_sub b_576 (by decide)) (bd_sub kb_1 (by decide)) (bd_sub kb_0 (by decide)) h_571 h_557 (bd_sub b_350 (by decide)) (by have h9_0 := b_350; unfold bd at h9_0; have h9_1 := b_554; unfold bd at h9_1; have h9_2 := b_574; unfold bd at h9_2; have h9_3 := b_576; unfold bd at h9_3; have h9_4 := bdT v4_4; unfold bd at h9_4; have h9_5 := bdT v4_6; unfold bd at h9_5; have h9_6 := bv4_2; unfold bd at h9_6; have h9_7 := bv4_3; unfold bd at h9_7; have h9_8 := bv4_5; unfold bd at h9_8; have h9_9 := bw4_0_10_a0_; unfold bd at h9_9; have h9_10 := bw4_0_8_a0_; unfold bd at h9_10; have h9_11 := bw4_7_6_q1_; unfold bd at h9_11; have h9_12 := h_557; unfold bd at h9_12; have h9_13 := h_571; unfold bd at h9_13; have h9_14 := kb_0; unfold bd at h9_14; have h9_15 := kb_1; unfold bd at h9_15; have h9_16 := kb_12; unfold bd at h9_16; have h9_17 := kb_205; unfold bd at h9_17; have h9_18 := kb_206; unfold bd at h9_18; have h9_19 := kb_300; unfold bd at h9_19; have h9_20 := kb_6; unfold bd at h9_20; have h9_21 := kb_7; unfold bd at h9_21; omega) _ _ _ _ g9  hl9
                                            · have fc_573 := nle_f c_573
                                              have b_577 : bd 13 2147483647 y_568 := ltR fc_573 kb_12 (bdT y_568) (by decide)
                                              refine lv_aload_n hx hb dX0_closeParts_227 rfl (lv_at hl 5 rfl) ?_
                                              refine g_getk (C := RX0) (T := TX0) (N := 14) hx hb hts (mc_ inX0) hown hK g rfl 0 (by decide) rfl (hts _ (List.mem_cons_of_mem _ t_373)) (fun _ h9 => h9) 9 rfl dX0_closeParts_228 ?_
                                              refine lv_bipush (v := 7) hx hb dX0_closeParts_231 (by decide) ?_
                                              refine lv_aload_n hx hb dX0_closeParts_233 rfl (lv_at hl 5 rfl) ?_
                                              refine g_getk (C := RX0) (T := TX0) (N := 14) hx hb hts (mc_ inX0) hown hK g rfl 4 (by decide) rfl (hts _ (List.mem_cons_of_mem _ t_377)) (fun _ h9 => h9) 7 rfl dX0_closeParts_234 ?_
                                              refine lv_aload_n hx hb dX0_closeParts_237 rfl (lv_at hl 5 rfl) ?_
                                              refine g_getk (C := RX0) (T := TX0) (N := 14) hx hb hts (mc_ inX0) hown hK g rfl 8 (by decide) rfl (hts _ (List.mem_cons_of_mem _ t_381)) (fun _ h9 => h9) 4 rfl dX0_closeParts_238 ?_
                                              refine g_iald hx hb hK g ma_331 ka_331 (by decide) rfl (in_bd b_350 (by decide)) dX0_closeParts_241 (fun x_578 bx_578 cx_578 => ?_)
                                              refine g_callv (va_runV (As := [.int 7, .int x_578]) (rest := []) ⟨hx, hb, hml, hown, hts⟩ (r_X8_fail_2 l dC dI L kd tys fr_569 H.size g.2.2.2.1 q0_ mq0_ kq0_ 7 (bd_sub kb_7 (by decide)) x_578 x_334 h_335 (g.fcts [6] rfl)) (cwV 2 hts (gV_ t_1215 t_1107 t_1108 t_184 t_1109) rfl rfl rfl (by decide +kernel) ⟨(Nat.le_of_ble_eq_true rfl), (Nat.le_of_ble_eq_true rfl)⟩) (pre3V g hK mq0_ kq0_ (by decide) (q := (RX8, TX8, 10)) rfl) rfl rfl hl.1 rfl (lv_room (Nat.le_of_ble_eq_true rfl)) dX0_closeParts_242 ⟨(Nat.le_of_ble_eq_true rfl), (Nat.le_of_ble_eq_true rfl)⟩) g hK (by decide) (by decide) (fx' := [(0, 12, a0_, .int 0), (0, 10, a0_, .int x_570), (0, 5, a0_, .ref a_559), (7, 6, q1_, .int x_556), (0, 8, a0_, .int y_349), (8, 8, q0_, .int x_334), (0, 4, a0_, .ref a_331), (0, 3, a0_, .ref g76_0_3_a0_), (0, 0, a0_, .ref q0_), (0, 2, a0_, .ref q1_)]) rfl (fun fr_579 H locs hp hMr_579 g => ?_)
                                              have hF_580 := hp
                                              have g := g.more hF_580
                                              obtain ⟨y_581, ey_581⟩ : ∃ z : Int32, z = v4_3 + 1 := ⟨_, rfl⟩
                                              refine lv_iinc (v := y_581) (lv' := [(3, .int y_581), (6, .int y_568), (2, .int 1), (5, .int 0), (4, .int x_351), (0, .ref a0_), (1, .int x1_)]) hx hb dX0_closeParts_245 hl (k := 4) rfl (by rw [ey_581]; rfl) (by decide) rfl (fun ls hl => ?_)
                                              have ty_581 := add_bd ey_581 b_342 kb_1 (by decide)
                                              have b_582 : bd 2 300 y_581 := add_rg ty_581 b_342 kb_1 (by decide)
                                              refine lv_goto (tgt := 4) hx hb dX0_closeParts_248 (by decide) ?_
                                              have hl9 := lv_sub hl [0, 1, 2, 3, 4, 5, 6] (by rfl : lv_pick [(3, .int y_581), (6, .int y_568), (2, .int 1), (5, .int 0), (4, .int x_351), (0, .ref a0_), (1, .int x1_)] [0, 1, 2, 3, 4, 5, 6] = [(3, .int y_581), (6, .int y_568), (2, .int 1), (5, .int 0), (4, .int x_351), (0, .ref a0_), (1, .int x1_)])
                                              have g9 := g.sub (fx' := [(8, 6, q0_, .int 1201), (8, 8, q0_, .int x_334), (0, 4, a0_, .ref a_331), (0, 12, a0_, .int 0), (0, 10, a0_, .int x_570), (7, 6, q1_, .int x_556), (0, 8, a0_, .int y_349), (0, 3, a0_, .ref g76_0_3_a0_), (0, 0, a0_, .ref q0_), (0, 2, a0_, .ref q1_)]) [0, 6, 7, 1, 2, 4, 5, 8, 9, 10] rfl
                                              exact ih4  y_581 y_568 1 0 x_351 x_570 x_556 y_349 (bd_sub b_582 (by decide)) (bd_sub kb_1 (by decide)) (bd_sub kb_0 (by decide)) h_571 h_557 (bd_sub b_350 (by decide)) (by have h9_0 := b_350; unfold bd at h9_0; have h9_1 := b_554; unfold bd at h9_1; have h9_2 := b_577; unfold bd at h9_2; have h9_3 := b_582; unfold bd at h9_3; have h9_4 := bdT v4_4; unfold bd at h9_4; have h9_5 := bdT v4_6; unfold bd at h9_5; have h9_6 := bv4_2; unfold bd at h9_6; have h9_7 := bv4_3; unfold bd at h9_7; have h9_8 := bv4_5; unfold bd at h9_8; have h9_9 := bw4_0_10_a0_; unfold bd at h9_9; have h9_10 := bw4_0_8_a0_; unfold bd at h9_10; have h9_11 := bw4_7_6_q1_; unfold bd at h9_11; have h9_12 := h_557; unfold bd at h9_12; have h9_13 := h_571; unfold bd at h9_13; have h9_14 := kb_0; unfold bd at h9_14; have h9_15 := kb_1; unfold bd at h9_15; have h9_16 := kb_12; unfold bd at h9_16; have h9_17 := kb_205; unfold bd at h9_17; have h9_18 := kb_206; unfold bd at h9_18; have h9_19 := kb_300; unfold bd at h9_19; have h9_20 := kb_6; unfold bd at h9_20; have h9_21 := kb_7; unfold bd at h9_21; omega) _ _ _ _ g9  hl9
                                  · have fc_384 := eq_f c_384
                                    have b_583 : bd 7 7 x_351 := eqX fc_384 (bdT x_351) kb_7 (by decide)
                                    refine lv_iconst (v := 1) hx hb dX0_closeParts_49 (by decide) ?_
                                    refine lv_goto (tgt := 54) hx hb dX0_closeParts_50 (by decide) ?_
                                    refine lv_istore (lv' := [(5, .int 1), (4, .int x_351), (3, .int v4_3), (6, .int v4_6), (2, .int v4_2), (0, .ref a0_), (1, .int x1_)]) hx hb dX0_closeParts_54 hl (by decide) rfl (fun ls hl => ?_)
                                    refine lv_iload hx hb dX0_closeParts_56 (lv_at hl 0 rfl) ?_
                                    refine lv_if_ne (tgt := 70) hx hb dX0_closeParts_58 (by decide) (fun c_ => ?_) (fun c_ => absurd c_ (by decide))
                                    refine lv_iconst (v := 1) hx hb dX0_closeParts_70 (by decide) ?_
                                    refine lv_goto (tgt := 75) hx hb dX0_closeParts_71 (by decide) ?_
                                    refine lv_istore_n (lv' := [(2, .int 1), (5, .int 1), (4, .int x_351), (3, .int v4_3), (6, .int v4_6), (0, .ref a0_), (1, .int x1_)]) hx hb dX0_closeParts_75 rfl hl (by decide) rfl (fun ls hl => ?_)
                                    refine lv_iload_n hx hb dX0_closeParts_76 rfl (lv_at hl 0 rfl) ?_
                                    refine lv_if_eq (tgt := 245) hx hb dX0_closeParts_77 (by decide) (fun c_ => absurd c_ (by decide)) (fun c_ => ?_)
                                    refine lv_aload_n hx hb dX0_closeParts_80 rfl (lv_at hl 5 rfl) ?_
                                    refine lv_dup hx hb dX0_closeParts_81 rfl ?_
                                    refine g_getk (C := RX0) (T := TX0) (N := 14) hx hb hts (mc_ inX0) hown hK g rfl 8 (by decide) rfl (hts _ (List.mem_cons_of_mem _ t_381)) (fun _ h9 => h9) 6 rfl dX0_closeParts_82 ?_
                                    refine lv_iconst (v := 1) hx hb dX0_closeParts_85 (by decide) ?_
                                    refine lv_isub hx hb dX0_closeParts_86 ?_
                                    refine lv_topi (fun y_584 ey_584 => ?_)
                                    obtain rfl : y_349 = y_584 := ey_349.trans ey_584.symm
                                    refine g_put (C := RX0) (T := TX0) (N := 14) hx hb hts (mc_ inX0) tyX0 tyX0_ok nmX0 hown hK g ma0_ ka0_ (by decide) rfl 8 (by decide) (hts _ (List.mem_cons_of_mem _ t_381)) (fun _ h9 => h9) rfl rfl (okV_i (bd_sub b_350 (by decide))) rfl rfl (by decide) (Or.inr (Or.inl (by decide))) (fx' := [(8, 6, q0_, .int 1201), (8, 8, q0_, .int x_334), (0, 4, a0_, .ref a_331), (0, 12, a0_, .int 0), (0, 10, a0_, .int w4_0_10_a0_), (7, 6, q1_, .int w4_7_6_q1_), (0, 3, a0_, .ref g76_0_3_a0_), (0, 0, a0_, .ref q0_), (0, 2, a0_, .ref q1_)]) rfl dX0_closeParts_87 (fun f H locs hM_585 g => ?_)
                                    refine lv_aload_n hx hb dX0_closeParts_90 rfl (lv_at hl 5 rfl) ?_
                                    refine g_calli (va_runV (As := []) (rest := []) ⟨hx, hb, hml, hown, hts⟩ (r_X0_takeHeight l dC dI L kd tys f H.size g.2.2.2.1 a0_ ma0_ ka0_) (cwV 0 hts (gV_ t_1199 t_1201 t_16 t_190 t_1202) rfl rfl rfl (by decide +kernel) ⟨(Nat.le_of_ble_eq_true rfl), (Nat.le_of_ble_eq_true rfl)⟩) (pre3V g hK ma0_ ka0_ (by decide) (q := (RX0, TX0, 14)) rfl) rfl rfl hl.1 rfl (lv_room (Nat.le_of_ble_eq_true rfl)) dX0_closeParts_91 ⟨(Nat.le_of_ble_eq_true rfl), (Nat.le_of_ble_eq_true rfl)⟩) g hK (by decide) (by decide) (fx' := [(0, 8, a0_, .int y_349), (8, 6, q0_, .int 1201), (8, 8, q0_, .int x_334), (0, 4, a0_, .ref a_331), (0, 12, a0_, .int 0), (7, 6, q1_, .int w4_7_6_q1_), (0, 3, a0_, .ref g76_0_3_a0_), (0, 0, a0_, .ref q0_), (0, 2, a0_, .ref q1_)]) rfl (fun r_586 fr_586 H locs hp hMr_586 g => ?_)
                                    obtain ⟨x_587, h_588, hF_589⟩ := hp
                                    have g := g.more hF_589
                                    refine lv_istore (lv' := [(6, .int r_586), (2, .int 1), (5, .int 1), (4, .int x_351), (3, .int v4_3), (0, .ref a0_), (1, .int x1_)]) hx hb dX0_closeParts_94 hl (by decide) rfl (fun ls hl => ?_)
                                    refine lv_iload hx hb dX0_closeParts_96 (lv_at hl 2 rfl) ?_
                                    refine lv_if_eq (tgt := 136) hx hb dX0_closeParts_98 (by decide) (fun c_ => absurd c_ (by decide)) (fun c_ => ?_)
                                    refine lv_aload_n hx hb dX0_closeParts_101 rfl (lv_at hl 5 rfl) ?_
                                    refine lv_dup hx hb dX0_closeParts_102 rfl ?_
                                    refine g_geti (C := RX0) (T := TX0) (N := 14) hx hb hts (mc_ inX0) hown hK g ma0_ ka0_ (by decide) rfl 11 (by decide) rfl (hts _ (List.mem_cons_of_mem _ t_384)) (fun _ h9 => h9) rfl dX0_closeParts_103 (fun x_590 bx_590 g => ?_)
                                    refine lv_iconst (v := 1) hx hb dX0_closeParts_106 (by decide) ?_
                                    refine lv_isub hx hb dX0_closeParts_107 ?_
                                    refine lv_topi (fun y_591 ey_591 => ?_)
                                    refine g_put (C := RX0) (T := TX0) (N := 14) hx hb hts (mc_ inX0) tyX0 tyX0_ok nmX0 hown hK g ma0_ ka0_ (by decide) rfl 11 (by decide) (hts _ (List.mem_cons_of_mem _ t_384)) (fun _ h9 => h9) rfl rfl (okV_i (bdT y_591)) rfl rfl (by decide) (Or.inr (Or.inl (by decide))) (fx' := [(0, 10, a0_, .int x_587), (0, 8, a0_, .int y_349), (8, 6, q0_, .int 1201), (8, 8, q0_, .int x_334), (0, 4, a0_, .ref a_331), (0, 12, a0_, .int 0), (7, 6, q1_, .int w4_7_6_q1_), (0, 3, a0_, .ref g76_0_3_a0_), (0, 0, a0_, .ref q0_), (0, 2, a0_, .ref q1_)]) rfl dX0_closeParts_108 (fun f H locs hM_592 g => ?_)
                                    refine lv_aload_n hx hb dX0_closeParts_111 rfl (lv_at hl 5 rfl) ?_
                                    refine g_getk (C := RX0) (T := TX0) (N := 14) hx hb hts (mc_ inX0) hown hK g rfl 2 (by decide) rfl (hts _ (List.mem_cons_of_mem _ t_375)) (fun _ h9 => h9) 10 rfl dX0_closeParts_112 ?_
                                    refine lv_iload hx hb dX0_closeParts_115 (lv_at hl 3 rfl) ?_
                                    refine lv_bipush (v := 6) hx hb dX0_closeParts_117 (by decide) ?_
                                    refine lv_icmp_ne (tgt := 127) hx hb dX0_closeParts_119 (by decide) (fun c_593 => ?_) (fun c_593 => ?_)
                                    · have fc_593 := neq_f c_593
                                      refine lv_bipush (v := 7) hx hb dX0_closeParts_127 (by decide) ?_
                                      refine lv_iconst (v := 0) hx hb dX0_closeParts_129 (by decide) ?_
                                      refine g_callv (va_runV (As := [.int 7, .int 0]) (rest := []) ⟨hx, hb, hml, hown, hts⟩ (r_X7_emit l dC dI L kd tys f H.size g.2.2.2.1 q1_ mq1_ kq1_ 7 0) (cwV 2 hts (gV_ t_1203 t_1204 t_1205 t_191 t_1206) rfl rfl rfl (by decide +kernel) ⟨(Nat.le_of_ble_eq_true rfl), (Nat.le_of_ble_eq_true rfl)⟩) (pre3V g hK mq1_ kq1_ (by decide) (q := (RX7, TX7, 19)) rfl) rfl rfl hl.1 rfl (lv_room (Nat.le_of_ble_eq_true rfl)) dX0_closeParts_130 ⟨(Nat.le_of_ble_eq_true rfl), (Nat.le_of_ble_eq_true rfl)⟩) g hK (by decide) (by decide) (fx' := [(0, 11, a0_, .int y_591), (0, 10, a0_, .int x_587), (0, 8, a0_, .int y_349), (8, 6, q0_, .int 1201), (8, 8, q0_, .int x_334), (0, 4, a0_, .ref a_331), (0, 12, a0_, .int 0), (0, 3, a0_, .ref g76_0_3_a0_), (0, 0, a0_, .ref q0_), (0, 2, a0_, .ref q1_)]) rfl (fun fr_594 H locs hp hMr_594 g => ?_)
                                      obtain ⟨x_595, h_596, hF_597⟩ := hp
                                      have g := g.more hF_597
                                      refine lv_goto (tgt := 191) hx hb dX0_closeParts_133 (by decide) ?_
                                      refine lv_iconst (v := 1) hx hb dX0_closeParts_191 (by decide) ?_
                                      refine lv_iload hx hb dX0_closeParts_192 (lv_at hl 2 rfl) ?_
                                      refine lv_if_eq (tgt := 202) hx hb dX0_closeParts_194 (by decide) (fun c_ => absurd c_ (by decide)) (fun c_ => ?_)
                                      refine lv_iload hx hb dX0_closeParts_197 (lv_at hl 0 rfl) ?_
                                      refine lv_goto (tgt := 211) hx hb dX0_closeParts_199 (by decide) ?_
                                      refine lv_iadd hx hb dX0_closeParts_211 ?_
                                      refine lv_topi (fun y_598 ey_598 => ?_)
                                      refine lv_istore (lv' := [(6, .int y_598), (2, .int 1), (5, .int 1), (4, .int x_351), (3, .int v4_3), (0, .ref a0_), (1, .int x1_)]) hx hb dX0_closeParts_212 hl (by decide) rfl (fun ls hl => ?_)
                                      refine lv_aload_n hx hb dX0_closeParts_214 rfl (lv_at hl 5 rfl) ?_
                                      refine lv_iload hx hb dX0_closeParts_215 (lv_at hl 0 rfl) ?_
                                      refine g_callv (va_runV (As := [.int y_598]) (rest := []) ⟨hx, hb, hml, hown, hts⟩ (r_X0_addWhole l dC dI L kd tys fr_594 H.size g.2.2.2.1 a0_ ma0_ ka0_ y_598) (cwV 1 hts (gV_ t_1211 t_1213 t_17 t_190 t_1214) rfl rfl rfl (by decide +kernel) ⟨(Nat.le_of_ble_eq_true rfl), (Nat.le_of_ble_eq_true rfl)⟩) (pre3V g hK ma0_ ka0_ (by decide) (q := (RX0, TX0, 14)) rfl) rfl rfl hl.1 rfl (lv_room (Nat.le_of_ble_eq_true rfl)) dX0_closeParts_217 ⟨(Nat.le_of_ble_eq_true rfl), (Nat.le_of_ble_eq_true rfl)⟩) g hK (by decide) (by decide) (fx' := [(7, 6, q1_, .int x_595), (0, 11, a0_, .int y_591), (0, 8, a0_, .int y_349), (8, 6, q0_, .int 1201), (8, 8, q0_, .int x_334), (0, 4, a0_, .ref a_331), (0, 3, a0_, .ref g76_0_3_a0_), (0, 0, a0_, .ref q0_), (0, 2, a0_, .ref q1_)]) rfl (fun fr_599 H locs hp hMr_599 g => ?_)
                                      obtain ⟨x_600, h_601, hF_602⟩ := hp
                                      have g := g.more hF_602
                                      refine lv_iload hx hb dX0_closeParts_220 (lv_at hl 0 rfl) ?_
                                      refine lv_bipush (v := 12) hx hb dX0_closeParts_222 (by decide) ?_
                                      refine lv_icmp_le (tgt := 245) hx hb dX0_closeParts_224 (by decide) (fun c_603 => ?_) (fun c_603 => ?_)
                                      · have fc_603 := le_f c_603
                                        have b_604 : bd (-2147483648) 12 y_598 := leL fc_603 (bdT y_598) kb_12 (by decide)
                                        obtain ⟨y_605, ey_605⟩ : ∃ z : Int32, z = v4_3 + 1 := ⟨_, rfl⟩
                                        refine lv_iinc (v := y_605) (lv' := [(3, .int y_605), (6, .int y_598), (2, .int 1), (5, .int 1), (4, .int x_351), (0, .ref a0_), (1, .int x1_)]) hx hb dX0_closeParts_245 hl (k := 4) rfl (by rw [ey_605]; rfl) (by decide) rfl (fun ls hl => ?_)
                                        have ty_605 := add_bd ey_605 b_342 kb_1 (by decide)
                                        have b_606 : bd 2 300 y_605 := add_rg ty_605 b_342 kb_1 (by decide)
                                        refine lv_goto (tgt := 4) hx hb dX0_closeParts_248 (by decide) ?_
                                        have hl9 := lv_sub hl [0, 1, 2, 3, 4, 5, 6] (by rfl : lv_pick [(3, .int y_605), (6, .int y_598), (2, .int 1), (5, .int 1), (4, .int x_351), (0, .ref a0_), (1, .int x1_)] [0, 1, 2, 3, 4, 5, 6] = [(3, .int y_605), (6, .int y_598), (2, .int 1), (5, .int 1), (4, .int x_351), (0, .ref a0_), (1, .int x1_)])
                                        have g9 := g.sub (fx' := [(8, 6, q0_, .int 1201), (8, 8, q0_, .int x_334), (0, 4, a0_, .ref a_331), (0, 12, a0_, .int 0), (0, 10, a0_, .int x_600), (7, 6, q1_, .int x_595), (0, 8, a0_, .int y_349), (0, 3, a0_, .ref g76_0_3_a0_), (0, 0, a0_, .ref q0_), (0, 2, a0_, .ref q1_)]) [5, 6, 7, 0, 1, 2, 4, 8, 9, 10] rfl
                                        exact ih4  y_605 y_598 1 1 x_351 x_600 x_595 y_349 (bd_sub b_606 (by decide)) (bd_sub kb_1 (by decide)) (bd_sub kb_1 (by decide)) h_601 h_596 (bd_sub b_350 (by decide)) (by have h9_0 := b_350; unfold bd at h9_0; have h9_1 := b_583; unfold bd at h9_1; have h9_2 := b_604; unfold bd at h9_2; have h9_3 := b_606; unfold bd at h9_3; have h9_4 := bdT v4_4; unfold bd at h9_4; have h9_5 := bdT v4_6; unfold bd at h9_5; have h9_6 := bv4_2; unfold bd at h9_6; have h9_7 := bv4_3; unfold bd at h9_7; have h9_8 := bv4_5; unfold bd at h9_8; have h9_9 := bw4_0_10_a0_; unfold bd at h9_9; have h9_10 := bw4_0_8_a0_; unfold bd at h9_10; have h9_11 := bw4_7_6_q1_; unfold bd at h9_11; have h9_12 := h_596; unfold bd at h9_12; have h9_13 := h_601; unfold bd at h9_13; have h9_14 := kb_0; unfold bd at h9_14; have h9_15 := kb_1; unfold bd at h9_15; have h9_16 := kb_12; unfold bd at h9_16; have h9_17 := kb_300; unfold bd at h9_17; have h9_18 := kb_6; unfold bd at h9_18; have h9_19 := kb_7; unfold bd at h9_19; omega) _ _ _ _ g9  hl9
                                      · have fc_603 := nle_f c_603
                                        have b_607 : bd 13 2147483647 y_598 := ltR fc_603 kb_12 (bdT y_598) (by decide)
                                        refine lv_aload_n hx hb dX0_closeParts_227 rfl (lv_at hl 5 rfl) ?_
                                        refine g_getk (C := RX0) (T := TX0) (N := 14) hx hb hts (mc_ inX0) hown hK g rfl 0 (by decide) rfl (hts _ (List.mem_cons_of_mem _ t_373)) (fun _ h9 => h9) 9 rfl dX0_closeParts_228 ?_
                                        refine lv_bipush (v := 7) hx hb dX0_closeParts_231 (by decide) ?_
                                        refine lv_aload_n hx hb dX0_closeParts_233 rfl (lv_at hl 5 rfl) ?_
                                        refine g_getk (C := RX0) (T := TX0) (N := 14) hx hb hts (mc_ inX0) hown hK g rfl 4 (by decide) rfl (hts _ (List.mem_cons_of_mem _ t_377)) (fun _ h9 => h9) 7 rfl dX0_closeParts_234 ?_
                                        refine lv_aload_n hx hb dX0_closeParts_237 rfl (lv_at hl 5 rfl) ?_
                                        refine g_getk (C := RX0) (T := TX0) (N := 14) hx hb hts (mc_ inX0) hown hK g rfl 8 (by decide) rfl (hts _ (List.mem_cons_of_mem _ t_381)) (fun _ h9 => h9) 4 rfl dX0_closeParts_238 ?_
                                        refine g_iald hx hb hK g ma_331 ka_331 (by decide) rfl (in_bd b_350 (by decide)) dX0_closeParts_241 (fun x_608 bx_608 cx_608 => ?_)
                                        refine g_callv (va_runV (As := [.int 7, .int x_608]) (rest := []) ⟨hx, hb, hml, hown, hts⟩ (r_X8_fail_2 l dC dI L kd tys fr_599 H.size g.2.2.2.1 q0_ mq0_ kq0_ 7 (bd_sub kb_7 (by decide)) x_608 x_334 h_335 (g.fcts [6] rfl)) (cwV 2 hts (gV_ t_1215 t_1107 t_1108 t_184 t_1109) rfl rfl rfl (by decide +kernel) ⟨(Nat.le_of_ble_eq_true rfl), (Nat.le_of_ble_eq_true rfl)⟩) (pre3V g hK mq0_ kq0_ (by decide) (q := (RX8, TX8, 10)) rfl) rfl rfl hl.1 rfl (lv_room (Nat.le_of_ble_eq_true rfl)) dX0_closeParts_242 ⟨(Nat.le_of_ble_eq_true rfl), (Nat.le_of_ble_eq_true rfl)⟩) g hK (by decide) (by decide) (fx' := [(0, 12, a0_, .int 0), (0, 10, a0_, .int x_600), (7, 6, q1_, .int x_595), (0, 11, a0_, .int y_591), (0, 8, a0_, .int y_349), (8, 8, q0_, .int x_334), (0, 4, a0_, .ref a_331), (0, 3, a0_, .ref g76_0_3_a0_), (0, 0, a0_, .ref q0_), (0, 2, a0_, .ref q1_)]) rfl (fun fr_609 H locs hp hMr_609 g => ?_)
                                        have hF_610 := hp
                                        have g := g.more hF_610
                                        obtain ⟨y_611, ey_611⟩ : ∃ z : Int32, z = v4_3 + 1 := ⟨_, rfl⟩
                                        refine lv_iinc (v := y_611) (lv' := [(3, .int y_611), (6, .int y_598), (2, .int 1), (5, .int 1), (4, .int x_351), (0, .ref a0_), (1, .int x1_)]) hx hb dX0_closeParts_245 hl (k := 4) rfl (by rw [ey_611]; rfl) (by decide) rfl (fun ls hl => ?_)
                                        have ty_611 := add_bd ey_611 b_342 kb_1 (by decide)
                                        have b_612 : bd 2 300 y_611 := add_rg ty_611 b_342 kb_1 (by decide)
                                        refine lv_goto (tgt := 4) hx hb dX0_closeParts_248 (by decide) ?_
                                        have hl9 := lv_sub hl [0, 1, 2, 3, 4, 5, 6] (by rfl : lv_pick [(3, .int y_611), (6, .int y_598), (2, .int 1), (5, .int 1), (4, .int x_351), (0, .ref a0_), (1, .int x1_)] [0, 1, 2, 3, 4, 5, 6] = [(3, .int y_611), (6, .int y_598), (2, .int 1), (5, .int 1), (4, .int x_351), (0, .ref a0_), (1, .int x1_)])
                                        have g9 := g.sub (fx' := [(8, 6, q0_, .int 1201), (8, 8, q0_, .int x_334), (0, 4, a0_, .ref a_331), (0, 12, a0_, .int 0), (0, 10, a0_, .int x_600), (7, 6, q1_, .int x_595), (0, 8, a0_, .int y_349), (0, 3, a0_, .ref g76_0_3_a0_), (0, 0, a0_, .ref q0_), (0, 2, a0_, .ref q1_)]) [0, 6, 7, 1, 2, 3, 5, 8, 9, 10] rfl
                                        exact ih4  y_611 y_598 1 1 x_351 x_600 x_595 y_349 (bd_sub b_612 (by decide)) (bd_sub kb_1 (by decide)) (bd_sub kb_1 (by decide)) h_601 h_596 (bd_sub b_350 (by decide)) (by have h9_0 := b_350; unfold bd at h9_0; have h9_1 := b_583; unfold bd at h9_1; have h9_2 := b_607; unfold bd at h9_2; have h9_3 := b_612; unfold bd at h9_3; have h9_4 := bdT v4_4; unfold bd at h9_4; have h9_5 := bdT v4_6; unfold bd at h9_5; have h9_6 := bv4_2; unfold bd at h9_6; have h9_7 := bv4_3; unfold bd at h9_7; have h9_8 := bv4_5; unfold bd at h9_8; have h9_9 := bw4_0_10_a0_; unfold bd at h9_9; have h9_10 := bw4_0_8_a0_; unfold bd at h9_10; have h9_11 := bw4_7_6_q1_; unfold bd at h9_11; have h9_12 := h_596; unfold bd at h9_12; have h9_13 := h_601; unfold bd at h9_13; have h9_14 := kb_0; unfold bd at h9_14; have h9_15 := kb_1; unfold bd at h9_15; have h9_16 := kb_12; unfold bd at h9_16; have h9_17 := kb_300; unfold bd at h9_17; have h9_18 := kb_6; unfold bd at h9_18; have h9_19 := kb_7; unfold bd at h9_19; omega) _ _ _ _ g9  hl9
                                    · have fc_593 := eq_f c_593
                                      have b_613 : bd 7 6 x_351 := eqX fc_593 b_583 kb_6 (by decide)
                                      exact bd_no b_613 (by decide)
                      have hl9 := lv_sub hl [0, 1, 2, 3, 4, 5, 6] (by rfl : lv_pick [(3, .int y_337), (6, .int y_321), (2, .int j76_2), (5, .int j76_5), (4, .int j76_4), (0, .ref a0_), (1, .int x1_)] [0, 1, 2, 3, 4, 5, 6] = [(3, .int y_337), (6, .int y_321), (2, .int j76_2), (5, .int j76_5), (4, .int j76_4), (0, .ref a0_), (1, .int x1_)])
                      have g9 := g.sub (fx' := [(8, 6, q0_, .int 1201), (8, 8, q0_, .int x_334), (0, 4, a0_, .ref a_331), (0, 12, a0_, .int 0), (0, 10, a0_, .int x_323), (7, 6, q1_, .int g191_7_6_q1_), (0, 8, a0_, .int g191_0_8_a0_), (0, 3, a0_, .ref g76_0_3_a0_), (0, 0, a0_, .ref q0_), (0, 2, a0_, .ref q1_)]) [0, 1, 2, 3, 4, 5, 6, 7, 8, 9] rfl
                      exact loop_339 (601) y_337 y_321 j76_2 j76_5 j76_4 x_323 g191_7_6_q1_ g191_0_8_a0_ b_338 (bd_sub b_17 (by decide)) (bd_sub b_320 (by decide)) h_324 bg191_7_6_q1_ bg191_0_8_a0_ (by have h9_0 := b_17; unfold bd at h9_0; have h9_1 := b_320; unfold bd at h9_1; have h9_2 := b_330; unfold bd at h9_2; have h9_3 := b_338; unfold bd at h9_3; have h9_4 := bdT j76_4; unfold bd at h9_4; have h9_5 := bg191_0_8_a0_; unfold bd at h9_5; have h9_6 := bg191_7_6_q1_; unfold bd at h9_6; have h9_7 := h_324; unfold bd at h9_7; have h9_8 := kb_0; unfold bd at h9_8; have h9_9 := kb_1; unfold bd at h9_9; have h9_10 := kb_12; unfold bd at h9_10; have h9_11 := kb_300; unfold bd at h9_11; have h9_12 := kb_7; unfold bd at h9_12; omega) _ _ _ _ g9  hl9
                refine lv_aload_n hx hb dX0_closeParts_80 rfl (lv_at hl 4 rfl) ?_
                refine lv_dup hx hb dX0_closeParts_81 rfl ?_
                refine g_getk (C := RX0) (T := TX0) (N := 14) hx hb hts (mc_ inX0) hown hK g rfl 8 (by decide) rfl (hts _ (List.mem_cons_of_mem _ t_381)) (fun _ h9 => h9) 1 rfl dX0_closeParts_82 ?_
                refine lv_iconst (v := 1) hx hb dX0_closeParts_85 (by decide) ?_
                have kb_1 : bd 1 1 (1 : Int32) := ⟨by decide, by decide⟩
                refine lv_isub hx hb dX0_closeParts_86 ?_
                refine lv_topi (fun y_614 ey_614 => ?_)
                have ty_614 := sub_bd ey_614 b_11 kb_1 (by decide)
                have b_615 : bd 0 299 y_614 := sub_rg ty_614 b_11 kb_1 (by decide)
                refine g_put (C := RX0) (T := TX0) (N := 14) hx hb hts (mc_ inX0) tyX0 tyX0_ok nmX0 hown hK g ma0_ ka0_ (by decide) rfl 8 (by decide) (hts _ (List.mem_cons_of_mem _ t_381)) (fun _ h9 => h9) rfl rfl (okV_i (bd_sub b_615 (by decide))) rfl rfl (by decide) (Or.inr (Or.inl (by decide))) (fx' := [(0, 3, a0_, .ref g76_0_3_a0_), (0, 0, a0_, .ref q0_), (0, 2, a0_, .ref q1_), (8, 8, q0_, .int y0_)]) rfl dX0_closeParts_87 (fun f H locs hM_616 g => ?_)
                refine lv_aload_n hx hb dX0_closeParts_90 rfl (lv_at hl 4 rfl) ?_
                refine g_calli (va_runV (As := []) (rest := []) ⟨hx, hb, hml, hown, hts⟩ (r_X0_takeHeight l dC dI L kd tys f H.size g.2.2.2.1 a0_ ma0_ ka0_) (cwV 0 hts (gV_ t_1199 t_1201 t_16 t_190 t_1202) rfl rfl rfl (by decide +kernel) ⟨(Nat.le_of_ble_eq_true rfl), (Nat.le_of_ble_eq_true rfl)⟩) (pre3V g hK ma0_ ka0_ (by decide) (q := (RX0, TX0, 14)) rfl) rfl rfl hl.1 rfl (lv_room (Nat.le_of_ble_eq_true rfl)) dX0_closeParts_91 ⟨(Nat.le_of_ble_eq_true rfl), (Nat.le_of_ble_eq_true rfl)⟩) g hK (by decide) (by decide) (fx' := [(0, 8, a0_, .int y_614), (0, 3, a0_, .ref g76_0_3_a0_), (0, 0, a0_, .ref q0_), (0, 2, a0_, .ref q1_), (8, 8, q0_, .int y0_)]) rfl (fun r_617 fr_617 H locs hp hMr_617 g => ?_)
                obtain ⟨x_618, h_619, hF_620⟩ := hp
                have g := g.more hF_620
                refine lv_istore (lv' := [(6, .int r_617), (2, .int j76_2), (5, .int j76_5), (4, .int j76_4), (3, .int v4_3), (0, .ref a0_), (1, .int x1_)]) hx hb dX0_closeParts_94 hl (by decide) rfl (fun ls hl => ?_)
                refine lv_iload hx hb dX0_closeParts_96 (lv_at hl 2 rfl) ?_
                refine lv_if_eq (tgt := 136) hx hb dX0_closeParts_98 (by decide) (fun c_621 => ?_) (fun c_621 => ?_)
                · have fc_621 := eq_f c_621
                  have b_622 : bd 0 0 j76_5 := eqX fc_621 bj76_5 kb_0 (by decide)
                  refine lv_iload hx hb dX0_closeParts_136 (lv_at hl 3 rfl) ?_
                  refine lv_sipush (v := 205) hx hb dX0_closeParts_138 (by decide) ?_
                  have kb_205 : bd 205 205 (205 : Int32) := ⟨by decide, by decide⟩
                  refine lv_icmp_eq (tgt := 152) hx hb dX0_closeParts_141 (by decide) (fun c_623 => ?_) (fun c_623 => ?_)
                  · have fc_623 := eq_f c_623
                    have b_624 : bd 205 205 j76_4 := eqX fc_623 (bdT j76_4) kb_205 (by decide)
                    refine lv_aload_n hx hb dX0_closeParts_152 rfl (lv_at hl 5 rfl) ?_
                    refine g_getk (C := RX0) (T := TX0) (N := 14) hx hb hts (mc_ inX0) hown hK g rfl 2 (by decide) rfl (hts _ (List.mem_cons_of_mem _ t_375)) (fun _ h9 => h9) 4 rfl dX0_closeParts_153 ?_
                    refine lv_bipush (v := 8) hx hb dX0_closeParts_156 (by decide) ?_
                    refine lv_iconst (v := 0) hx hb dX0_closeParts_158 (by decide) ?_
                    refine g_callv (va_runV (As := [.int 8, .int 0]) (rest := []) ⟨hx, hb, hml, hown, hts⟩ (r_X7_emit l dC dI L kd tys fr_617 H.size g.2.2.2.1 q1_ mq1_ kq1_ 8 0) (cwV 2 hts (gV_ t_1203 t_1204 t_1205 t_191 t_1206) rfl rfl rfl (by decide +kernel) ⟨(Nat.le_of_ble_eq_true rfl), (Nat.le_of_ble_eq_true rfl)⟩) (pre3V g hK mq1_ kq1_ (by decide) (q := (RX7, TX7, 19)) rfl) rfl rfl hl.1 rfl (lv_room (Nat.le_of_ble_eq_true rfl)) dX0_closeParts_159 ⟨(Nat.le_of_ble_eq_true rfl), (Nat.le_of_ble_eq_true rfl)⟩) g hK (by decide) (by decide) (fx' := [(0, 10, a0_, .int x_618), (0, 8, a0_, .int y_614), (0, 3, a0_, .ref g76_0_3_a0_), (0, 0, a0_, .ref q0_), (0, 2, a0_, .ref q1_), (8, 8, q0_, .int y0_)]) rfl (fun fr_625 H locs hp hMr_625 g => ?_)
                    obtain ⟨x_626, h_627, hF_628⟩ := hp
                    have g := g.more hF_628
                    refine lv_aload_n hx hb dX0_closeParts_162 rfl (lv_at hl 5 rfl) ?_
                    refine g_getk (C := RX0) (T := TX0) (N := 14) hx hb hts (mc_ inX0) hown hK g rfl 2 (by decide) rfl (hts _ (List.mem_cons_of_mem _ t_375)) (fun _ h9 => h9) 5 rfl dX0_closeParts_163 ?_
                    refine lv_aload_n hx hb dX0_closeParts_166 rfl (lv_at hl 5 rfl) ?_
                    refine g_getr (K := 112) (C := RX0) (T := TX0) (N := 14) hx hb hts (mc_ inX0) hown hK g ma0_ ka0_ (by decide) rfl 5 (by decide) rfl (hts _ (List.mem_cons_of_mem _ t_378)) (fun _ h9 => h9) rfl dX0_closeParts_167 (fun a_629 ma_629 ka_629 g => ?_)
                    refine lv_aload_n hx hb dX0_closeParts_170 rfl (lv_at hl 5 rfl) ?_
                    refine g_getk (C := RX0) (T := TX0) (N := 14) hx hb hts (mc_ inX0) hown hK g rfl 8 (by decide) rfl (hts _ (List.mem_cons_of_mem _ t_381)) (fun _ h9 => h9) 3 rfl dX0_closeParts_171 ?_
                    refine g_iald hx hb hK g ma_629 ka_629 (by decide) rfl (in_bd b_615 (by decide)) dX0_closeParts_174 (fun x_630 bx_630 cx_630 => ?_)
                    refine g_callv (va_runV (As := [.int x_630]) (rest := []) ⟨hx, hb, hml, hown, hts⟩ (r_X7_leadHere l dC dI L kd tys fr_625 H.size g.2.2.2.1 q1_ mq1_ kq1_ x_630) (cwV 1 hts (gV_ t_1207 t_1208 t_1209 t_191 t_1210) rfl rfl rfl (by decide +kernel) ⟨(Nat.le_of_ble_eq_true rfl), (Nat.le_of_ble_eq_true rfl)⟩) (pre3V g hK mq1_ kq1_ (by decide) (q := (RX7, TX7, 19)) rfl) rfl rfl hl.1 rfl (lv_room (Nat.le_of_ble_eq_true rfl)) dX0_closeParts_175 ⟨(Nat.le_of_ble_eq_true rfl), (Nat.le_of_ble_eq_true rfl)⟩) g hK (by decide) (by decide) (fx' := [(0, 5, a0_, .ref a_629), (7, 6, q1_, .int x_626), (0, 10, a0_, .int x_618), (0, 8, a0_, .int y_614), (0, 3, a0_, .ref g76_0_3_a0_), (0, 0, a0_, .ref q0_), (0, 2, a0_, .ref q1_), (8, 8, q0_, .int y0_)]) rfl (fun fr_631 H locs hp hMr_631 g => ?_)
                    refine lv_goto (tgt := 191) hx hb dX0_closeParts_178 (by decide) ?_
                    have hl9 := lv_sub hl [0, 1, 2, 3, 4, 5, 6] (by rfl : lv_pick [(6, .int r_617), (2, .int j76_2), (5, .int j76_5), (4, .int j76_4), (3, .int v4_3), (0, .ref a0_), (1, .int x1_)] [0, 1, 2, 3, 4, 5, 6] = [(6, .int r_617), (2, .int j76_2), (5, .int j76_5), (4, .int j76_4), (3, .int v4_3), (0, .ref a0_), (1, .int x1_)])
                    have g9 := g.sub (fx' := [(7, 6, q1_, .int x_626), (0, 10, a0_, .int x_618), (0, 8, a0_, .int y_614), (0, 3, a0_, .ref g76_0_3_a0_), (0, 0, a0_, .ref q0_), (0, 2, a0_, .ref q1_), (8, 8, q0_, .int y0_)]) [1, 2, 3, 4, 5, 6, 7] rfl
                    exact join_18 r_617 x_626 x_618 y_614 _ _ _ _ h_627 h_619 b_615 g9  hl9
                  · have fc_623 := neq_f c_623
                    refine lv_iload hx hb dX0_closeParts_144 (lv_at hl 3 rfl) ?_
                    refine lv_sipush (v := 206) hx hb dX0_closeParts_146 (by decide) ?_
                    have kb_206 : bd 206 206 (206 : Int32) := ⟨by decide, by decide⟩
                    refine lv_icmp_ne (tgt := 181) hx hb dX0_closeParts_149 (by decide) (fun c_632 => ?_) (fun c_632 => ?_)
                    · have fc_632 := neq_f c_632
                      refine lv_aload_n hx hb dX0_closeParts_181 rfl (lv_at hl 5 rfl) ?_
                      refine g_getk (C := RX0) (T := TX0) (N := 14) hx hb hts (mc_ inX0) hown hK g rfl 2 (by decide) rfl (hts _ (List.mem_cons_of_mem _ t_375)) (fun _ h9 => h9) 4 rfl dX0_closeParts_182 ?_
                      refine lv_iload hx hb dX0_closeParts_185 (lv_at hl 3 rfl) ?_
                      refine lv_iconst (v := 0) hx hb dX0_closeParts_187 (by decide) ?_
                      refine g_callv (va_runV (As := [.int j76_4, .int 0]) (rest := []) ⟨hx, hb, hml, hown, hts⟩ (r_X7_emit l dC dI L kd tys fr_617 H.size g.2.2.2.1 q1_ mq1_ kq1_ j76_4 0) (cwV 2 hts (gV_ t_1203 t_1204 t_1205 t_191 t_1206) rfl rfl rfl (by decide +kernel) ⟨(Nat.le_of_ble_eq_true rfl), (Nat.le_of_ble_eq_true rfl)⟩) (pre3V g hK mq1_ kq1_ (by decide) (q := (RX7, TX7, 19)) rfl) rfl rfl hl.1 rfl (lv_room (Nat.le_of_ble_eq_true rfl)) dX0_closeParts_188 ⟨(Nat.le_of_ble_eq_true rfl), (Nat.le_of_ble_eq_true rfl)⟩) g hK (by decide) (by decide) (fx' := [(0, 10, a0_, .int x_618), (0, 8, a0_, .int y_614), (0, 3, a0_, .ref g76_0_3_a0_), (0, 0, a0_, .ref q0_), (0, 2, a0_, .ref q1_), (8, 8, q0_, .int y0_)]) rfl (fun fr_633 H locs hp hMr_633 g => ?_)
                      obtain ⟨x_634, h_635, hF_636⟩ := hp
                      have g := g.more hF_636
                      have hl9 := lv_sub hl [0, 1, 2, 3, 4, 5, 6] (by rfl : lv_pick [(6, .int r_617), (2, .int j76_2), (5, .int j76_5), (4, .int j76_4), (3, .int v4_3), (0, .ref a0_), (1, .int x1_)] [0, 1, 2, 3, 4, 5, 6] = [(6, .int r_617), (2, .int j76_2), (5, .int j76_5), (4, .int j76_4), (3, .int v4_3), (0, .ref a0_), (1, .int x1_)])
                      have g9 := g.sub (fx' := [(7, 6, q1_, .int x_634), (0, 10, a0_, .int x_618), (0, 8, a0_, .int y_614), (0, 3, a0_, .ref g76_0_3_a0_), (0, 0, a0_, .ref q0_), (0, 2, a0_, .ref q1_), (8, 8, q0_, .int y0_)]) [0, 1, 2, 3, 4, 5, 6] rfl
                      exact join_18 r_617 x_634 x_618 y_614 _ _ _ _ h_635 h_619 b_615 g9  hl9
                    · have fc_632 := eq_f c_632
                      have b_637 : bd 206 206 j76_4 := eqX fc_632 (bdT j76_4) kb_206 (by decide)
                      refine lv_aload_n hx hb dX0_closeParts_152 rfl (lv_at hl 5 rfl) ?_
                      refine g_getk (C := RX0) (T := TX0) (N := 14) hx hb hts (mc_ inX0) hown hK g rfl 2 (by decide) rfl (hts _ (List.mem_cons_of_mem _ t_375)) (fun _ h9 => h9) 4 rfl dX0_closeParts_153 ?_
                      refine lv_bipush (v := 8) hx hb dX0_closeParts_156 (by decide) ?_
                      refine lv_iconst (v := 0) hx hb dX0_closeParts_158 (by decide) ?_
                      refine g_callv (va_runV (As := [.int 8, .int 0]) (rest := []) ⟨hx, hb, hml, hown, hts⟩ (r_X7_emit l dC dI L kd tys fr_617 H.size g.2.2.2.1 q1_ mq1_ kq1_ 8 0) (cwV 2 hts (gV_ t_1203 t_1204 t_1205 t_191 t_1206) rfl rfl rfl (by decide +kernel) ⟨(Nat.le_of_ble_eq_true rfl), (Nat.le_of_ble_eq_true rfl)⟩) (pre3V g hK mq1_ kq1_ (by decide) (q := (RX7, TX7, 19)) rfl) rfl rfl hl.1 rfl (lv_room (Nat.le_of_ble_eq_true rfl)) dX0_closeParts_159 ⟨(Nat.le_of_ble_eq_true rfl), (Nat.le_of_ble_eq_true rfl)⟩) g hK (by decide) (by decide) (fx' := [(0, 10, a0_, .int x_618), (0, 8, a0_, .int y_614), (0, 3, a0_, .ref g76_0_3_a0_), (0, 0, a0_, .ref q0_), (0, 2, a0_, .ref q1_), (8, 8, q0_, .int y0_)]) rfl (fun fr_638 H locs hp hMr_638 g => ?_)
                      obtain ⟨x_639, h_640, hF_641⟩ := hp
                      have g := g.more hF_641
                      refine lv_aload_n hx hb dX0_closeParts_162 rfl (lv_at hl 5 rfl) ?_
                      refine g_getk (C := RX0) (T := TX0) (N := 14) hx hb hts (mc_ inX0) hown hK g rfl 2 (by decide) rfl (hts _ (List.mem_cons_of_mem _ t_375)) (fun _ h9 => h9) 5 rfl dX0_closeParts_163 ?_
                      refine lv_aload_n hx hb dX0_closeParts_166 rfl (lv_at hl 5 rfl) ?_
                      refine g_getr (K := 112) (C := RX0) (T := TX0) (N := 14) hx hb hts (mc_ inX0) hown hK g ma0_ ka0_ (by decide) rfl 5 (by decide) rfl (hts _ (List.mem_cons_of_mem _ t_378)) (fun _ h9 => h9) rfl dX0_closeParts_167 (fun a_642 ma_642 ka_642 g => ?_)
                      refine lv_aload_n hx hb dX0_closeParts_170 rfl (lv_at hl 5 rfl) ?_
                      refine g_getk (C := RX0) (T := TX0) (N := 14) hx hb hts (mc_ inX0) hown hK g rfl 8 (by decide) rfl (hts _ (List.mem_cons_of_mem _ t_381)) (fun _ h9 => h9) 3 rfl dX0_closeParts_171 ?_
                      refine g_iald hx hb hK g ma_642 ka_642 (by decide) rfl (in_bd b_615 (by decide)) dX0_closeParts_174 (fun x_643 bx_643 cx_643 => ?_)
                      refine g_callv (va_runV (As := [.int x_643]) (rest := []) ⟨hx, hb, hml, hown, hts⟩ (r_X7_leadHere l dC dI L kd tys fr_638 H.size g.2.2.2.1 q1_ mq1_ kq1_ x_643) (cwV 1 hts (gV_ t_1207 t_1208 t_1209 t_191 t_1210) rfl rfl rfl (by decide +kernel) ⟨(Nat.le_of_ble_eq_true rfl), (Nat.le_of_ble_eq_true rfl)⟩) (pre3V g hK mq1_ kq1_ (by decide) (q := (RX7, TX7, 19)) rfl) rfl rfl hl.1 rfl (lv_room (Nat.le_of_ble_eq_true rfl)) dX0_closeParts_175 ⟨(Nat.le_of_ble_eq_true rfl), (Nat.le_of_ble_eq_true rfl)⟩) g hK (by decide) (by decide) (fx' := [(0, 5, a0_, .ref a_642), (7, 6, q1_, .int x_639), (0, 10, a0_, .int x_618), (0, 8, a0_, .int y_614), (0, 3, a0_, .ref g76_0_3_a0_), (0, 0, a0_, .ref q0_), (0, 2, a0_, .ref q1_), (8, 8, q0_, .int y0_)]) rfl (fun fr_644 H locs hp hMr_644 g => ?_)
                      refine lv_goto (tgt := 191) hx hb dX0_closeParts_178 (by decide) ?_
                      have hl9 := lv_sub hl [0, 1, 2, 3, 4, 5, 6] (by rfl : lv_pick [(6, .int r_617), (2, .int j76_2), (5, .int j76_5), (4, .int j76_4), (3, .int v4_3), (0, .ref a0_), (1, .int x1_)] [0, 1, 2, 3, 4, 5, 6] = [(6, .int r_617), (2, .int j76_2), (5, .int j76_5), (4, .int j76_4), (3, .int v4_3), (0, .ref a0_), (1, .int x1_)])
                      have g9 := g.sub (fx' := [(7, 6, q1_, .int x_639), (0, 10, a0_, .int x_618), (0, 8, a0_, .int y_614), (0, 3, a0_, .ref g76_0_3_a0_), (0, 0, a0_, .ref q0_), (0, 2, a0_, .ref q1_), (8, 8, q0_, .int y0_)]) [1, 2, 3, 4, 5, 6, 7] rfl
                      exact join_18 r_617 x_639 x_618 y_614 _ _ _ _ h_640 h_619 b_615 g9  hl9
                · have fc_621 := neq_f c_621
                  have b_645 : bd 1 1 j76_5 := neX fc_621 bj76_5 kb_0 (by decide)
                  refine lv_aload_n hx hb dX0_closeParts_101 rfl (lv_at hl 5 rfl) ?_
                  refine lv_dup hx hb dX0_closeParts_102 rfl ?_
                  refine g_geti (C := RX0) (T := TX0) (N := 14) hx hb hts (mc_ inX0) hown hK g ma0_ ka0_ (by decide) rfl 11 (by decide) rfl (hts _ (List.mem_cons_of_mem _ t_384)) (fun _ h9 => h9) rfl dX0_closeParts_103 (fun x_646 bx_646 g => ?_)
                  refine lv_iconst (v := 1) hx hb dX0_closeParts_106 (by decide) ?_
                  refine lv_isub hx hb dX0_closeParts_107 ?_
                  refine lv_topi (fun y_647 ey_647 => ?_)
                  refine g_put (C := RX0) (T := TX0) (N := 14) hx hb hts (mc_ inX0) tyX0 tyX0_ok nmX0 hown hK g ma0_ ka0_ (by decide) rfl 11 (by decide) (hts _ (List.mem_cons_of_mem _ t_384)) (fun _ h9 => h9) rfl rfl (okV_i (bdT y_647)) rfl rfl (by decide) (Or.inr (Or.inl (by decide))) (fx' := [(0, 10, a0_, .int x_618), (0, 8, a0_, .int y_614), (0, 3, a0_, .ref g76_0_3_a0_), (0, 0, a0_, .ref q0_), (0, 2, a0_, .ref q1_), (8, 8, q0_, .int y0_)]) rfl dX0_closeParts_108 (fun f H locs hM_648 g => ?_)
                  refine lv_aload_n hx hb dX0_closeParts_111 rfl (lv_at hl 5 rfl) ?_
                  refine g_getk (C := RX0) (T := TX0) (N := 14) hx hb hts (mc_ inX0) hown hK g rfl 2 (by decide) rfl (hts _ (List.mem_cons_of_mem _ t_375)) (fun _ h9 => h9) 5 rfl dX0_closeParts_112 ?_
                  refine lv_iload hx hb dX0_closeParts_115 (lv_at hl 3 rfl) ?_
                  refine lv_bipush (v := 6) hx hb dX0_closeParts_117 (by decide) ?_
                  have kb_6 : bd 6 6 (6 : Int32) := ⟨by decide, by decide⟩
                  refine lv_icmp_ne (tgt := 127) hx hb dX0_closeParts_119 (by decide) (fun c_649 => ?_) (fun c_649 => ?_)
                  · have fc_649 := neq_f c_649
                    refine lv_bipush (v := 7) hx hb dX0_closeParts_127 (by decide) ?_
                    refine lv_iconst (v := 0) hx hb dX0_closeParts_129 (by decide) ?_
                    refine g_callv (va_runV (As := [.int 7, .int 0]) (rest := []) ⟨hx, hb, hml, hown, hts⟩ (r_X7_emit l dC dI L kd tys f H.size g.2.2.2.1 q1_ mq1_ kq1_ 7 0) (cwV 2 hts (gV_ t_1203 t_1204 t_1205 t_191 t_1206) rfl rfl rfl (by decide +kernel) ⟨(Nat.le_of_ble_eq_true rfl), (Nat.le_of_ble_eq_true rfl)⟩) (pre3V g hK mq1_ kq1_ (by decide) (q := (RX7, TX7, 19)) rfl) rfl rfl hl.1 rfl (lv_room (Nat.le_of_ble_eq_true rfl)) dX0_closeParts_130 ⟨(Nat.le_of_ble_eq_true rfl), (Nat.le_of_ble_eq_true rfl)⟩) g hK (by decide) (by decide) (fx' := [(0, 11, a0_, .int y_647), (0, 10, a0_, .int x_618), (0, 8, a0_, .int y_614), (0, 3, a0_, .ref g76_0_3_a0_), (0, 0, a0_, .ref q0_), (0, 2, a0_, .ref q1_), (8, 8, q0_, .int y0_)]) rfl (fun fr_650 H locs hp hMr_650 g => ?_)
                    obtain ⟨x_651, h_652, hF_653⟩ := hp
                    have g := g.more hF_653
                    refine lv_goto (tgt := 191) hx hb dX0_closeParts_133 (by decide) ?_
                    have hl9 := lv_sub hl [0, 1, 2, 3, 4, 5, 6] (by rfl : lv_pick [(6, .int r_617), (2, .int j76_2), (5, .int j76_5), (4, .int j76_4), (3, .int v4_3), (0, .ref a0_), (1, .int x1_)] [0, 1, 2, 3, 4, 5, 6] = [(6, .int r_617), (2, .int j76_2), (5, .int j76_5), (4, .int j76_4), (3, .int v4_3), (0, .ref a0_), (1, .int x1_)])
                    have g9 := g.sub (fx' := [(7, 6, q1_, .int x_651), (0, 10, a0_, .int x_618), (0, 8, a0_, .int y_614), (0, 3, a0_, .ref g76_0_3_a0_), (0, 0, a0_, .ref q0_), (0, 2, a0_, .ref q1_), (8, 8, q0_, .int y0_)]) [0, 2, 3, 4, 5, 6, 7] rfl
                    exact join_18 r_617 x_651 x_618 y_614 _ _ _ _ h_652 h_619 b_615 g9  hl9
                  · have fc_649 := eq_f c_649
                    have b_654 : bd 6 6 j76_4 := eqX fc_649 (bdT j76_4) kb_6 (by decide)
                    refine lv_bipush (v := 6) hx hb dX0_closeParts_122 (by decide) ?_
                    refine lv_goto (tgt := 129) hx hb dX0_closeParts_124 (by decide) ?_
                    refine lv_iconst (v := 0) hx hb dX0_closeParts_129 (by decide) ?_
                    refine g_callv (va_runV (As := [.int 6, .int 0]) (rest := []) ⟨hx, hb, hml, hown, hts⟩ (r_X7_emit l dC dI L kd tys f H.size g.2.2.2.1 q1_ mq1_ kq1_ 6 0) (cwV 2 hts (gV_ t_1203 t_1204 t_1205 t_191 t_1206) rfl rfl rfl (by decide +kernel) ⟨(Nat.le_of_ble_eq_true rfl), (Nat.le_of_ble_eq_true rfl)⟩) (pre3V g hK mq1_ kq1_ (by decide) (q := (RX7, TX7, 19)) rfl) rfl rfl hl.1 rfl (lv_room (Nat.le_of_ble_eq_true rfl)) dX0_closeParts_130 ⟨(Nat.le_of_ble_eq_true rfl), (Nat.le_of_ble_eq_true rfl)⟩) g hK (by decide) (by decide) (fx' := [(0, 11, a0_, .int y_647), (0, 10, a0_, .int x_618), (0, 8, a0_, .int y_614), (0, 3, a0_, .ref g76_0_3_a0_), (0, 0, a0_, .ref q0_), (0, 2, a0_, .ref q1_), (8, 8, q0_, .int y0_)]) rfl (fun fr_655 H locs hp hMr_655 g => ?_)
                    obtain ⟨x_656, h_657, hF_658⟩ := hp
                    have g := g.more hF_658
                    refine lv_goto (tgt := 191) hx hb dX0_closeParts_133 (by decide) ?_
                    have hl9 := lv_sub hl [0, 1, 2, 3, 4, 5, 6] (by rfl : lv_pick [(6, .int r_617), (2, .int j76_2), (5, .int j76_5), (4, .int j76_4), (3, .int v4_3), (0, .ref a0_), (1, .int x1_)] [0, 1, 2, 3, 4, 5, 6] = [(6, .int r_617), (2, .int j76_2), (5, .int j76_5), (4, .int j76_4), (3, .int v4_3), (0, .ref a0_), (1, .int x1_)])
                    have g9 := g.sub (fx' := [(7, 6, q1_, .int x_656), (0, 10, a0_, .int x_618), (0, 8, a0_, .int y_614), (0, 3, a0_, .ref g76_0_3_a0_), (0, 0, a0_, .ref q0_), (0, 2, a0_, .ref q1_), (8, 8, q0_, .int y0_)]) [0, 2, 3, 4, 5, 6, 7] rfl
                    exact join_18 r_617 x_656 x_618 y_614 _ _ _ _ h_657 h_619 b_615 g9  hl9
            refine lv_aload_n hx hb dX0_closeParts_22 rfl (lv_at hl 2 rfl) ?_
            refine g_getr (K := 110) (C := RX0) (T := TX0) (N := 14) hx hb hts (mc_ inX0) hown hK g ma0_ ka0_ (by decide) rfl 3 (by decide) rfl (hts _ (List.mem_cons_of_mem _ t_376)) (fun _ h9 => h9) rfl dX0_closeParts_23 (fun a_659 ma_659 ka_659 g => ?_)
            refine lv_aload_n hx hb dX0_closeParts_26 rfl (lv_at hl 2 rfl) ?_
            refine g_getk (C := RX0) (T := TX0) (N := 14) hx hb hts (mc_ inX0) hown hK g rfl 8 (by decide) rfl (hts _ (List.mem_cons_of_mem _ t_381)) (fun _ h9 => h9) 1 rfl dX0_closeParts_27 ?_
            refine lv_iconst (v := 1) hx hb dX0_closeParts_30 (by decide) ?_
            have kb_1 : bd 1 1 (1 : Int32) := ⟨by decide, by decide⟩
            refine lv_isub hx hb dX0_closeParts_31 ?_
            refine lv_topi (fun y_660 ey_660 => ?_)
            have ty_660 := sub_bd ey_660 b_11 kb_1 (by decide)
            have b_661 : bd 0 299 y_660 := sub_rg ty_660 b_11 kb_1 (by decide)
            refine g_iald hx hb hK g ma_659 ka_659 (by decide) rfl (in_bd b_661 (by decide)) dX0_closeParts_32 (fun x_662 bx_662 cx_662 => ?_)
            refine lv_istore (lv' := [(4, .int x_662), (3, .int v4_3), (2, .int v4_2), (0, .ref a0_), (1, .int x1_)]) hx hb dX0_closeParts_33 hl (by decide) rfl (fun ls hl => ?_)
            refine lv_iload hx hb dX0_closeParts_35 (lv_at hl 0 rfl) ?_
            refine lv_bipush (v := 6) hx hb dX0_closeParts_37 (by decide) ?_
            have kb_6 : bd 6 6 (6 : Int32) := ⟨by decide, by decide⟩
            refine lv_icmp_eq (tgt := 49) hx hb dX0_closeParts_39 (by decide) (fun c_663 => ?_) (fun c_663 => ?_)
            · have fc_663 := eq_f c_663
              have b_664 : bd 6 6 x_662 := eqX fc_663 (bdT x_662) kb_6 (by decide)
              refine lv_iconst (v := 1) hx hb dX0_closeParts_49 (by decide) ?_
              refine lv_goto (tgt := 54) hx hb dX0_closeParts_50 (by decide) ?_
              refine lv_istore (lv' := [(5, .int 1), (4, .int x_662), (3, .int v4_3), (2, .int v4_2), (0, .ref a0_), (1, .int x1_)]) hx hb dX0_closeParts_54 hl (by decide) rfl (fun ls hl => ?_)
              refine lv_iload hx hb dX0_closeParts_56 (lv_at hl 0 rfl) ?_
              refine lv_if_ne (tgt := 70) hx hb dX0_closeParts_58 (by decide) (fun c_ => ?_) (fun c_ => absurd c_ (by decide))
              refine lv_iconst (v := 1) hx hb dX0_closeParts_70 (by decide) ?_
              refine lv_goto (tgt := 75) hx hb dX0_closeParts_71 (by decide) ?_
              refine lv_istore_n (lv' := [(2, .int 1), (5, .int 1), (4, .int x_662), (3, .int v4_3), (0, .ref a0_), (1, .int x1_)]) hx hb dX0_closeParts_75 rfl hl (by decide) rfl (fun ls hl => ?_)
              have hl9 := lv_sub hl [0, 1, 2, 3, 4, 5] (by rfl : lv_pick [(2, .int 1), (5, .int 1), (4, .int x_662), (3, .int v4_3), (0, .ref a0_), (1, .int x1_)] [0, 1, 2, 3, 4, 5] = [(2, .int 1), (5, .int 1), (4, .int x_662), (3, .int v4_3), (0, .ref a0_), (1, .int x1_)])
              have g9 := g.sub (fx' := [(0, 3, a0_, .ref a_659), (0, 8, a0_, .int x_8), (0, 0, a0_, .ref q0_), (0, 2, a0_, .ref q1_), (8, 8, q0_, .int y0_)]) [0, 1, 2, 3, 4] rfl
              exact join_12 1 1 x_662 a_659 _ _ _ _ (bd_sub kb_1 (by decide)) (bd_sub kb_1 (by decide)) ma_659 ka_659 g9  hl9
            · have fc_663 := neq_f c_663
              refine lv_iload hx hb dX0_closeParts_42 (lv_at hl 0 rfl) ?_
              refine lv_bipush (v := 7) hx hb dX0_closeParts_44 (by decide) ?_
              have kb_7 : bd 7 7 (7 : Int32) := ⟨by decide, by decide⟩
              refine lv_icmp_ne (tgt := 53) hx hb dX0_closeParts_46 (by decide) (fun c_665 => ?_) (fun c_665 => ?_)
              · have fc_665 := neq_f c_665
                refine lv_iconst (v := 0) hx hb dX0_closeParts_53 (by decide) ?_
                refine lv_istore (lv' := [(5, .int 0), (4, .int x_662), (3, .int v4_3), (2, .int v4_2), (0, .ref a0_), (1, .int x1_)]) hx hb dX0_closeParts_54 hl (by decide) rfl (fun ls hl => ?_)
                refine lv_iload hx hb dX0_closeParts_56 (lv_at hl 0 rfl) ?_
                refine lv_if_ne (tgt := 70) hx hb dX0_closeParts_58 (by decide) (fun c_ => absurd c_ (by decide)) (fun c_ => ?_)
                refine lv_iload hx hb dX0_closeParts_61 (lv_at hl 1 rfl) ?_
                refine g_calli (va_runS (As := [.int x_662]) (rest := []) ⟨hx, hb, hml, hown, hts⟩ (r_X0_levelOf l dC dI L kd tys f H.size g.2.2.2.1 x_662) (va_cwS 1 hts (gS_ t_1191 t_1192 t_190 t_1193) rfl rfl rfl (by decide +kernel) ⟨(Nat.le_of_ble_eq_true rfl), (Nat.le_of_ble_eq_true rfl)⟩) (pre3S g hK) rfl rfl hl.1 rfl (lv_room (Nat.le_of_ble_eq_true rfl)) dX0_closeParts_63 ⟨(Nat.le_of_ble_eq_true rfl), (Nat.le_of_ble_eq_true rfl)⟩) g hK (by decide) (by decide) (fx' := [(0, 3, a0_, .ref a_659), (0, 8, a0_, .int x_8), (0, 0, a0_, .ref q0_), (0, 2, a0_, .ref q1_), (8, 8, q0_, .int y0_)]) rfl (fun r_666 fr_666 H locs hp hMr_666 g => ?_)
                rcases hp with ⟨h_667, -⟩ | ⟨h_668, h_669, -⟩
                · obtain rfl : r_666 = 0 := h_667
                  refine lv_iload_n hx hb dX0_closeParts_66 rfl (lv_at hl 5 rfl) ?_
                  refine lv_icmp_lt (tgt := 74) hx hb dX0_closeParts_67 (by decide) (fun c_670 => ?_) (fun c_670 => ?_)
                  · have fc_670 := lt_f c_670
                    have b_671 : bd 1 2147483647 x1_ := ltR fc_670 kb_0 (bdT x1_) (by decide)
                    refine lv_iconst (v := 0) hx hb dX0_closeParts_74 (by decide) ?_
                    refine lv_istore_n (lv' := [(2, .int 0), (5, .int 0), (4, .int x_662), (3, .int v4_3), (0, .ref a0_), (1, .int x1_)]) hx hb dX0_closeParts_75 rfl hl (by decide) rfl (fun ls hl => ?_)
                    have hl9 := lv_sub hl [0, 1, 2, 3, 4, 5] (by rfl : lv_pick [(2, .int 0), (5, .int 0), (4, .int x_662), (3, .int v4_3), (0, .ref a0_), (1, .int x1_)] [0, 1, 2, 3, 4, 5] = [(2, .int 0), (5, .int 0), (4, .int x_662), (3, .int v4_3), (0, .ref a0_), (1, .int x1_)])
                    have g9 := g.sub (fx' := [(0, 3, a0_, .ref a_659), (0, 8, a0_, .int x_8), (0, 0, a0_, .ref q0_), (0, 2, a0_, .ref q1_), (8, 8, q0_, .int y0_)]) [0, 1, 2, 3, 4] rfl
                    exact join_12 0 0 x_662 a_659 _ _ _ _ (bd_sub kb_0 (by decide)) (bd_sub kb_0 (by decide)) ma_659 ka_659 g9  hl9
                  · have fc_670 := nlt_f c_670
                    have b_672 : bd (-2147483648) 0 x1_ := leL fc_670 (bdT x1_) kb_0 (by decide)
                    refine lv_iconst (v := 1) hx hb dX0_closeParts_70 (by decide) ?_
                    refine lv_goto (tgt := 75) hx hb dX0_closeParts_71 (by decide) ?_
                    refine lv_istore_n (lv' := [(2, .int 1), (5, .int 0), (4, .int x_662), (3, .int v4_3), (0, .ref a0_), (1, .int x1_)]) hx hb dX0_closeParts_75 rfl hl (by decide) rfl (fun ls hl => ?_)
                    have hl9 := lv_sub hl [0, 1, 2, 3, 4, 5] (by rfl : lv_pick [(2, .int 1), (5, .int 0), (4, .int x_662), (3, .int v4_3), (0, .ref a0_), (1, .int x1_)] [0, 1, 2, 3, 4, 5] = [(2, .int 1), (5, .int 0), (4, .int x_662), (3, .int v4_3), (0, .ref a0_), (1, .int x1_)])
                    have g9 := g.sub (fx' := [(0, 3, a0_, .ref a_659), (0, 8, a0_, .int x_8), (0, 0, a0_, .ref q0_), (0, 2, a0_, .ref q1_), (8, 8, q0_, .int y0_)]) [0, 1, 2, 3, 4] rfl
                    exact join_12 1 0 x_662 a_659 _ _ _ _ (bd_sub kb_1 (by decide)) (bd_sub kb_0 (by decide)) ma_659 ka_659 g9  hl9
                · have b_673 : bd 37 206 x_662 := eqX rfl (bdT x_662) h_669 (by decide)
                  refine lv_iload_n hx hb dX0_closeParts_66 rfl (lv_at hl 5 rfl) ?_
                  refine lv_icmp_lt (tgt := 74) hx hb dX0_closeParts_67 (by decide) (fun c_674 => ?_) (fun c_674 => ?_)
                  · have fc_674 := lt_f c_674
                    have b_675 : bd 2 2147483647 x1_ := ltR fc_674 h_668 (bdT x1_) (by decide)
                    refine lv_iconst (v := 0) hx hb dX0_closeParts_74 (by decide) ?_
                    refine lv_istore_n (lv' := [(2, .int 0), (5, .int 0), (4, .int x_662), (3, .int v4_3), (0, .ref a0_), (1, .int x1_)]) hx hb dX0_closeParts_75 rfl hl (by decide) rfl (fun ls hl => ?_)
                    have hl9 := lv_sub hl [0, 1, 2, 3, 4, 5] (by rfl : lv_pick [(2, .int 0), (5, .int 0), (4, .int x_662), (3, .int v4_3), (0, .ref a0_), (1, .int x1_)] [0, 1, 2, 3, 4, 5] = [(2, .int 0), (5, .int 0), (4, .int x_662), (3, .int v4_3), (0, .ref a0_), (1, .int x1_)])
                    have g9 := g.sub (fx' := [(0, 3, a0_, .ref a_659), (0, 8, a0_, .int x_8), (0, 0, a0_, .ref q0_), (0, 2, a0_, .ref q1_), (8, 8, q0_, .int y0_)]) [0, 1, 2, 3, 4] rfl
                    exact join_12 0 0 x_662 a_659 _ _ _ _ (bd_sub kb_0 (by decide)) (bd_sub kb_0 (by decide)) ma_659 ka_659 g9  hl9
                  · have fc_674 := nlt_f c_674
                    have b_676 : bd (-2147483648) 5 x1_ := leL fc_674 (bdT x1_) h_668 (by decide)
                    refine lv_iconst (v := 1) hx hb dX0_closeParts_70 (by decide) ?_
                    refine lv_goto (tgt := 75) hx hb dX0_closeParts_71 (by decide) ?_
                    refine lv_istore_n (lv' := [(2, .int 1), (5, .int 0), (4, .int x_662), (3, .int v4_3), (0, .ref a0_), (1, .int x1_)]) hx hb dX0_closeParts_75 rfl hl (by decide) rfl (fun ls hl => ?_)
                    have hl9 := lv_sub hl [0, 1, 2, 3, 4, 5] (by rfl : lv_pick [(2, .int 1), (5, .int 0), (4, .int x_662), (3, .int v4_3), (0, .ref a0_), (1, .int x1_)] [0, 1, 2, 3, 4, 5] = [(2, .int 1), (5, .int 0), (4, .int x_662), (3, .int v4_3), (0, .ref a0_), (1, .int x1_)])
                    have g9 := g.sub (fx' := [(0, 3, a0_, .ref a_659), (0, 8, a0_, .int x_8), (0, 0, a0_, .ref q0_), (0, 2, a0_, .ref q1_), (8, 8, q0_, .int y0_)]) [0, 1, 2, 3, 4] rfl
                    exact join_12 1 0 x_662 a_659 _ _ _ _ (bd_sub kb_1 (by decide)) (bd_sub kb_0 (by decide)) ma_659 ka_659 g9  hl9
              · have fc_665 := eq_f c_665
                have b_677 : bd 7 7 x_662 := eqX fc_665 (bdT x_662) kb_7 (by decide)
                refine lv_iconst (v := 1) hx hb dX0_closeParts_49 (by decide) ?_
                refine lv_goto (tgt := 54) hx hb dX0_closeParts_50 (by decide) ?_
                refine lv_istore (lv' := [(5, .int 1), (4, .int x_662), (3, .int v4_3), (2, .int v4_2), (0, .ref a0_), (1, .int x1_)]) hx hb dX0_closeParts_54 hl (by decide) rfl (fun ls hl => ?_)
                refine lv_iload hx hb dX0_closeParts_56 (lv_at hl 0 rfl) ?_
                refine lv_if_ne (tgt := 70) hx hb dX0_closeParts_58 (by decide) (fun c_ => ?_) (fun c_ => absurd c_ (by decide))
                refine lv_iconst (v := 1) hx hb dX0_closeParts_70 (by decide) ?_
                refine lv_goto (tgt := 75) hx hb dX0_closeParts_71 (by decide) ?_
                refine lv_istore_n (lv' := [(2, .int 1), (5, .int 1), (4, .int x_662), (3, .int v4_3), (0, .ref a0_), (1, .int x1_)]) hx hb dX0_closeParts_75 rfl hl (by decide) rfl (fun ls hl => ?_)
                have hl9 := lv_sub hl [0, 1, 2, 3, 4, 5] (by rfl : lv_pick [(2, .int 1), (5, .int 1), (4, .int x_662), (3, .int v4_3), (0, .ref a0_), (1, .int x1_)] [0, 1, 2, 3, 4, 5] = [(2, .int 1), (5, .int 1), (4, .int x_662), (3, .int v4_3), (0, .ref a0_), (1, .int x1_)])
                have g9 := g.sub (fx' := [(0, 3, a0_, .ref a_659), (0, 8, a0_, .int x_8), (0, 0, a0_, .ref q0_), (0, 2, a0_, .ref q1_), (8, 8, q0_, .int y0_)]) [0, 1, 2, 3, 4] rfl
                exact join_12 1 1 x_662 a_659 _ _ _ _ (bd_sub kb_1 (by decide)) (bd_sub kb_1 (by decide)) ma_659 ka_659 g9  hl9
  have kb_0 : bd 0 0 (0 : Int32) := ⟨by decide, by decide⟩
  have kb_1 : bd 1 1 (1 : Int32) := ⟨by decide, by decide⟩
  have hl9 := lv_sub hl [0, 1, 2, 3] (by rfl : lv_pick [(3, .int 0), (2, .int 1), (0, .ref a0_), (1, .int x1_)] [0, 1, 2, 3] = [(3, .int 0), (2, .int 1), (0, .ref a0_), (1, .int x1_)])
  have g9 := g.sub (fx' := [(0, 0, a0_, .ref q0_), (0, 2, a0_, .ref q1_), (8, 8, q0_, .int y0_)]) [0, 1, 2] rfl
  exact loop_1 (603) 0 1 (bd_sub kb_0 (by decide)) (bd_sub kb_1 (by decide)) (by have h9_0 := kb_0; unfold bd at h9_0; have h9_1 := kb_1; unfold bd at h9_1; omega) _ _ _ _ g9  hl9
